/-! ===== the reference's at, bitsOf, triangle ===== -/
theorem xx_rw.sn {B : xx_H} {b : Nat} {N : Nat → Int} (H : xx_rw B b N) : ∃ h, B.2 (b + 3) = xx_i 1740 h ∧ (∀ r, r < 1740 → h r = iz (N r).sign) ∧ ∀ (C : xx_H) (v : Int) (a : Nat), a < 1740 → v.natAbs = (N a).natAbs → C.2 (b + 3) = xx_i 1740 (upd h a (iz v.sign)) → (∀ q, q ≠ b + 3 → C.2 q = B.2 q) → xx_rw C b (yy_un N a v) := by
  obtain ⟨⟨f, g, h, a1, a2, a3, a4⟩, ⟨f2, a5⟩, ⟨f3, a6⟩⟩ := H
  refine ⟨h, a3, fun r hr => (a4 r hr).1, fun C v a ha hv hc hq => ⟨⟨f, g, _, (hq _ (by omega)).trans a1, (hq _ (by omega)).trans a2, hc, fun r hr => ?_⟩, ⟨f2, (hq _ (by omega)).trans a5⟩, ⟨f3, (hq _ (by omega)).trans a6⟩⟩⟩
  obtain ⟨q1, len, q2, q3, D, q4, q5, q6⟩ := a4 r hr
  by_cases z : r = a
  · subst z
    rw [yy_un_s]
    exact ⟨pk_us, len, q2, q3, D, q4, q5, hv.trans q6⟩
  · rw [yy_un_n z]
    exact ⟨(pk_un z).trans q1, len, q2, q3, D, q4, q5, q6⟩
theorem yj_ng {s : Int} (h : s = 1 ∨ s = -1) : -(iz s) = iz (-s) := by rcases h with h | h <;> subst h <;> decide
theorem yj_sm {s x : Int} (h : s = 1 ∨ s = -1) : iz x.sign * iz s = iz (s * x).sign := by
  rcases h with h | h
  · subst h; rw [iz_mul, Int.mul_one, Int.one_mul]
  · subst h
    rw [iz_mul, show (-1 : Int) * x = -x by omega, Int.sign_neg, show x.sign * -1 = - x.sign by omega]
theorem yj_p19 {v : Int} (h : v.natAbs < 2 ^ 216) : v.natAbs < 65536 ^ 19 := Nat.lt_trans h (by decide +kernel)
set_option maxRecDepth 100000 in
theorem c_X9_at {G : xx_G} {l : Launch} {A : xx_H} {b r c : Nat} : xx_X G l mX9_at 0 0 0 0 (lv_args 0 [.ref b, .int (nI r), .int (nI c)]) [] A (fun z B => z = .inl (some (.int (nI (240 + 8 * r + c)))) ∧ B = A) := by
  refine xx_clv (lv2 := [(0, .ref b), (1, .int (nI r)), (2, .int (nI c))]) rfl ?_
  refine xx_sipush (v := 240) dX9_at_0 (by decide) ?_
  refine xx_bipush (v := 8) dX9_at_3 (by decide) ?_
  refine xx_iload_n dX9_at_5 rfl ?_
  refine xx_imul dX9_at_6 ?_
  refine xx_eqi (y := nI (8 * r)) (pk_mul 8 r) ?_
  refine xx_iadd dX9_at_7 ?_
  refine xx_eqi (y := nI (240 + (8 * r))) (nI_add 240 (8 * r)) ?_
  refine xx_iload_n dX9_at_8 rfl ?_
  refine xx_iadd dX9_at_9 ?_
  refine xx_eqi (y := nI (240 + (8 * r) + c)) (nI_add (240 + (8 * r)) c) ?_
  exact xx_iret dX9_at_10 rfl ⟨rfl, rfl⟩
set_option maxRecDepth 100000 in
theorem l_X9_bo {G : xx_G} {l : Launch} {A : xx_H} {v9 ia : Nat} {Q : Option Value ⊕ String → xx_H → Prop} (h64 : v9 < 64) (kC : ∀ (B : xx_H) (f : Nat → Int32), (B.1 = A.1) → (B.2 ia = xx_i 6 f) → (∀ j, j < yk_x v9 6 → f j = nI (yk_e v9 j)) → (∀ q, q ≠ ia → B.2 q = A.2 q) → xx_X G l mX9_bitsOf 0 0 0 32 [(2, .int (nI (yb_c v9)))] [] B Q) :
    ∀ (v i : Nat), i + v = 6 → ∀ (B : xx_H) (f : Nat → Int32), (B.1 = A.1) → (B.2 ia = xx_i 6 f) → (∀ j, j < yk_x v9 i → f j = nI (yk_e v9 j)) → (∀ q, q ≠ ia → B.2 q = A.2 q) → xx_X G l mX9_bitsOf 0 0 0 4 [(0, .int (nI v9)), (1, .ref ia), (2, .int (nI (yk_x v9 i))), (3, .int (nI i))] [] B Q := by
  intro v
  induction v with
  | zero =>
    intro i h9i B f y1 y2 y3 y4
    have h9e : 6 = i := by omega
    subst h9e
    have x6 := yk_x6 v9 h64
    rw [x6]
    refine xx_clv (lv2 := [(0, .int (nI v9)), (1, .ref ia), (2, .int (nI (yb_c v9))), (3, .int 6)]) rfl ?_
    refine xx_iload_n dX9_bitsOf_4 rfl ?_
    refine xx_bipush (v := 6) dX9_bitsOf_5 (by decide) ?_
    refine xx_icmp_ge (tgt := 32) dX9_bitsOf_7 (by decide) (fun j7 => ?_) (fun h => absurd (by decide) h)
    refine xx_less [2] ?_
    refine xx_clv (lv2 := [(2, .int (nI (yb_c v9)))]) rfl ?_
    exact kC B f y1 y2 y3 y4
  | succ v ih =>
    intro i h9i B f y1 y2 y3 y4
    refine xx_iload_n dX9_bitsOf_4 rfl ?_
    refine xx_bipush (v := 6) dX9_bitsOf_5 (by decide) ?_
    refine xx_icmp_ge (tgt := 32) dX9_bitsOf_7 (by decide) (fun h => absurd h (nI_ge (a := i) (b := 6) (by omega) (by omega))) (fun j7 => ?_)
    refine xx_iload_n dX9_bitsOf_10 rfl ?_
    refine xx_iload_n dX9_bitsOf_11 rfl ?_
    refine xx_ishr dX9_bitsOf_12 ?_
    refine xx_iconst (v := 1) dX9_bitsOf_13 (by decide) ?_
    refine xx_iand dX9_bitsOf_14 ?_
    refine xx_eqi (y := if Nat.testBit v9 i then 1 else 0) (yb_sh h64 (by omega)) ?_
    refine xx_iconst (v := 1) dX9_bitsOf_15 (by decide) ?_
    refine xx_icmp_ne (tgt := 26) dX9_bitsOf_16 (by decide) (fun j16 => ?_) (fun j16 => ?_)
    · have tb : Nat.testBit v9 i = false := by cases hz : Nat.testBit v9 i; rfl; exact absurd (if_pos hz) j16
      have xf := yk_xf v9 h64 i (by omega) tb
      rw [← xf] at y3 ⊢
      refine xx_iinc (v := nI (i + 1)) dX9_bitsOf_26 rfl (nI_1 i) (by decide) ?_
      refine xx_clv (lv2 := [(0, .int (nI v9)), (1, .ref ia), (2, .int (nI (yk_x v9 (i + 1)))), (3, .int (nI (i + 1)))]) rfl ?_
      refine xx_goto (tgt := 4) dX9_bitsOf_29 (by decide) ?_
      refine xx_less [0, 1, 2, 3] ?_
      refine xx_clv (lv2 := [(0, .int (nI v9)), (1, .ref ia), (2, .int (nI (yk_x v9 (i + 1)))), (3, .int (nI (i + 1)))]) rfl ?_
      refine ih (i + 1) (by omega) B f y1 y2 y3 y4
    · have tb : Nat.testBit v9 i = true := Classical.byContradiction (fun z => absurd ((if_neg z).symm.trans j16) (by decide))
      refine xx_aload_n dX9_bitsOf_19 rfl ?_
      refine xx_iload_n dX9_bitsOf_20 rfl ?_
      refine xx_iload_n dX9_bitsOf_21 rfl ?_
      have ex := yk_ex v9 h64 i (by omega) tb
      have xt := yk_xt v9 h64 i (by omega) tb
      have xl := yk_xl v9 h64 i (by omega) tb
      have c6 := yb_c6 v9 h64
      refine xx_iast dX9_bitsOf_22 y2 (vp_in_nI (by omega) (by decide)) (xx_gu fun Eq1 z1 h1 o1 => ?_)
      rw [nI_clamp (by omega)] at h1
      refine xx_iinc (v := nI (yk_x v9 (i + 1))) dX9_bitsOf_23 rfl (by rw [xt]; exact nI_add _ 1) (by decide) ?_
      refine xx_clv (lv2 := [(0, .int (nI v9)), (1, .ref ia), (2, .int (nI (yk_x v9 (i + 1)))), (3, .int (nI i))]) rfl ?_
      refine xx_iinc (v := nI (i + 1)) dX9_bitsOf_26 rfl (nI_1 i) (by decide) ?_
      refine xx_clv (lv2 := [(0, .int (nI v9)), (1, .ref ia), (2, .int (nI (yk_x v9 (i + 1)))), (3, .int (nI (i + 1)))]) rfl ?_
      refine xx_goto (tgt := 4) dX9_bitsOf_29 (by decide) ?_
      refine xx_less [0, 1, 2, 3] ?_
      refine xx_clv (lv2 := [(0, .int (nI v9)), (1, .ref ia), (2, .int (nI (yk_x v9 (i + 1)))), (3, .int (nI (i + 1)))]) rfl ?_
      refine ih (i + 1) (by omega) Eq1 _ (by omega) h1 (fun j hj => ?_) (fun q hq => (o1 q hq).trans (y4 q hq))
      by_cases z : j = yk_x v9 i
      · rw [z, pk_us, ex]
      · rw [pk_un z]; exact y3 j (by omega)
set_option maxRecDepth 100000 in
theorem c_X9_bitsOf {G : xx_G} {l : Launch} {A : xx_H} {v9 ia : Nat} {f : Nat → Int32} (h64 : v9 < 64) (hi : A.2 ia = xx_i 6 f) : xx_X G l mX9_bitsOf 0 0 0 0 (lv_args 0 [.int (nI v9), .ref ia]) [] A (fun z B => z = .inl (some (.int (nI (yb_c v9)))) ∧ B.1 = A.1 ∧ (∃ g, B.2 ia = xx_i 6 g ∧ ∀ j, j < yb_c v9 → g j = nI (yk_e v9 j)) ∧ ∀ q, q ≠ ia → B.2 q = A.2 q) := by
  refine xx_clv (lv2 := [(0, .int (nI v9)), (1, .ref ia)]) rfl ?_
  refine xx_iconst (v := 0) dX9_bitsOf_0 (by decide) ?_
  refine xx_istore_n dX9_bitsOf_1 (by decide) ?_
  refine xx_clv (lv2 := [(0, .int (nI v9)), (1, .ref ia), (2, .int 0)]) rfl ?_
  refine xx_iconst (v := 0) dX9_bitsOf_2 (by decide) ?_
  refine xx_istore_n dX9_bitsOf_3 (by decide) ?_
  refine xx_clv (lv2 := [(0, .int (nI v9)), (1, .ref ia), (2, .int 0), (3, .int 0)]) rfl ?_
  refine xx_clv (lv2 := [(0, .int (nI v9)), (1, .ref ia), (2, .int (nI (yk_x v9 0))), (3, .int (nI 0))]) (by rw [yk_x0]; rfl) ?_
  refine l_X9_bo h64 (fun B g y1 y2 y3 y4 => ?_) 6 0 (by omega) A f rfl hi (fun j hj => absurd hj (by rw [yk_x0]; omega)) (fun q _ => rfl)
  rw [yk_x6 v9 h64] at y3
  refine xx_iload_n dX9_bitsOf_32 rfl ?_
  exact xx_iret dX9_bitsOf_33 rfl ⟨rfl, y1, ⟨g, y2, y3⟩, y4⟩
set_option maxRecDepth 100000 in
theorem c_X9_bits {G : xx_G} {l : Launch} {A : xx_H} {b : Nat} {th hr st hl en tu : Value} {m n : Nat} {v9 : Nat} {f : Nat → Int32} (hb : A.2 b = xx_o 9 (xx_mf b th (.int (nI m)) (.int (nI n)) hr st hl en tu)) (h64 : v9 < 64) (hi : A.2 (b + 19) = xx_i 6 f) : xx_X G l mX9_bits 1 0 0 0 (lv_args 0 [.ref b, .int (nI v9)]) [] A (fun z B => z = .inl (some (.int (nI (yb_c v9)))) ∧ B.1 = A.1 ∧ (∃ g, B.2 (b + 19) = xx_i 6 g ∧ ∀ j, j < yb_c v9 → g j = nI (yk_e v9 j)) ∧ ∀ q, q ≠ b + 19 → B.2 q = A.2 q) := by
  refine xx_clv (lv2 := [(0, .ref b), (1, .int (nI v9))]) rfl ?_
  refine xx_iload_n dX9_bits_0 rfl ?_
  refine xx_aload_n dX9_bits_1 rfl ?_
  refine xx_get xx_c9 dX9_bits_2 wf_X9_71 (j := 25) (by decide) hb rfl ?_
  refine xx_callS (N := mX9_bitsOf) (vs := [.int (nI v9), .ref (b + 19)]) (rest := []) (d2 := 0) (c2 := 0) (s2 := 0) (c3 := 0) (s3 := 0) dX9_bits_5 wm_X9_205 ws_X9_bitsOf wz_X9 (by decide) nX9_bitsOf ⟨pX9_bitsOf, Nat.le_of_ble_eq_true rfl, by decide, Nat.le_of_ble_eq_true rfl, by decide, by decide⟩ (c_X9_bitsOf h64 hi) (fun v9 Eq1 hC => ?_) (fun E9 B9 hC => absurd hC.1 (by simp))
  obtain ⟨hv9, y1, y2, y3⟩ := hC
  cases hv9
  refine xx_cst (st2 := [.int (nI (yb_c v9))]) rfl ?_
  exact xx_iret dX9_bits_8 rfl ⟨rfl, y1, y2, y3⟩
set_option maxRecDepth 100000 in
theorem l_X9_tp {G : xx_G} {l : Launch} {A : xx_H} {b : Nat} {th hr st hl en tu : Value} {m n : Nat} {R C : Nat} {x3 : Int32} {N : Nat → Int} {k : Nat} {Q : Option Value ⊕ String → xx_H → Prop} (hb : A.2 b = xx_o 9 (xx_mf b th (.int (nI m)) (.int (nI n)) hr st hl en tu)) (hN : xx_rw A b N) (hR : R ≤ 7) (hk : k < 8) (kC : ∀ p, k ≤ p → p ≤ R → (∀ j, k ≤ j → j < p → N (240 + 8 * j + k) = 0) → (p < R → N (240 + 8 * p + k) ≠ 0) → xx_X G l mX9_triangle 4 0 0 50 [(0, .ref b), (1, .int (nI R)), (2, .int (nI C)), (3, .int x3), (4, .int (nI k)), (5, .int (nI p))] [] A Q) :
    ∀ (v i : Nat), i + v = R → k ≤ i → (∀ j, k ≤ j → j < i → N (240 + 8 * j + k) = 0) → xx_X G l mX9_triangle 4 0 0 22 [(0, .ref b), (1, .int (nI R)), (2, .int (nI C)), (3, .int x3), (4, .int (nI k)), (5, .int (nI i))] [] A Q := by
  obtain ⟨h9, s1, s2⟩ := hN.sg
  intro v
  induction v with
  | zero =>
    intro i h9i y0 y1
    have h9e : R = i := by omega
    subst h9e
    refine xx_iload dX9_triangle_22 rfl ?_
    refine xx_iload_n dX9_triangle_24 rfl ?_
    refine xx_icmp_ge (tgt := 50) dX9_triangle_25 (by decide) (fun j25 => ?_) (fun h => absurd (Int32.le_refl _) h)
    exact kC R y0 (Nat.le_refl _) y1 (fun q => absurd q (Nat.lt_irrefl _))
  | succ v ih =>
    intro i h9i y0 y1
    refine xx_iload dX9_triangle_22 rfl ?_
    refine xx_iload_n dX9_triangle_24 rfl ?_
    refine xx_icmp_ge (tgt := 50) dX9_triangle_25 (by decide) (fun h => absurd h (nI_ge (a := i) (b := R) (by omega) (by omega))) (fun j25 => ?_)
    refine xx_aload_n dX9_triangle_28 rfl ?_
    refine xx_get xx_c9 dX9_triangle_29 wf_X9_17 (j := 3) (by decide) hb rfl ?_
    refine xx_aload_n dX9_triangle_32 rfl ?_
    refine xx_iload dX9_triangle_33 rfl ?_
    refine xx_iload dX9_triangle_35 rfl ?_
    refine xx_callV (N := mX9_at) (vs := [.int (nI i), .int (nI k)]) (b := b) (rest := [.ref (b + 3)]) (d2 := 0) (c2 := 0) (s2 := 0) (c3 := 0) (s3 := 0) dX9_triangle_37 wm_X9_199 wi_X9_at wv_X9_at (k := 9) rfl (by decide) hb nX9_at ⟨pX9_at, Nat.le_of_ble_eq_true rfl, by decide, Nat.le_of_ble_eq_true rfl, by decide, by decide⟩ (c_X9_at (r := i) (c := k)) (fun v9 B9 hC => ?_) (fun E9 B9 hC => absurd hC.1 (by simp))
    obtain ⟨hv9, e9⟩ := hC
    cases hv9
    refine xx_cst (st2 := [.int (nI (240 + 8 * i + k)), .ref (b + 3)]) rfl ?_
    rw [e9]
    refine xx_iald dX9_triangle_40 s1 (vp_in_nI (by omega) (by decide)) ?_
    refine xx_eqi (y := iz (N (240 + 8 * i + k)).sign) (by rw [nI_clamp (by omega)]; exact s2 _ (by omega)) ?_
    refine xx_if_ne (tgt := 50) dX9_triangle_41 (by decide) (fun j41 => ?_) (fun j41 => ?_)
    · exact kC i y0 (by omega) y1 (fun _ z => j41 (yk_sg0.mpr z))
    · refine xx_iinc (v := nI (i + 1)) dX9_triangle_44 rfl (nI_1 i) (by decide) ?_
      refine xx_clv (lv2 := [(0, .ref b), (1, .int (nI R)), (2, .int (nI C)), (3, .int x3), (4, .int (nI k)), (5, .int (nI (i + 1)))]) rfl ?_
      refine xx_goto (tgt := 22) dX9_triangle_47 (by decide) ?_
      refine ih (i + 1) (by omega) (by omega) (fun j a1 a2 => ?_)
      by_cases z : j = i
      · rw [z]; exact yk_sg0.mp j41
      · exact y1 j a1 (by omega)
set_option maxRecDepth 100000 in
theorem l_X9_ts {G : xx_G} {l : Launch} {A : xx_H} {b : Nat} {th hr st hl en tu : Value} {m n : Nat} {R C : Nat} {x3 : Int32} {N : Nat → Int} {k p : Nat} {Q : Option Value ⊕ String → xx_H → Prop} (hb : A.2 b = xx_o 9 (xx_mf b th (.int (nI m)) (.int (nI n)) hr st hl en tu)) (hC : C ≤ 8) (hkp : k < p) (hp : p < 7) (kC : ∀ (B : xx_H) (N2 : Nat → Int), (B.1 = A.1) → (xx_rw B b N2) → (∀ j, j < C → N2 (240 + 8 * k + j) = N (240 + 8 * p + j) ∧ N2 (240 + 8 * p + j) = N (240 + 8 * k + j)) → (∀ q, q ≠ 13 → (q < 240 + 8 * k ∨ 240 + 8 * k + C ≤ q) → (q < 240 + 8 * p ∨ 240 + 8 * p + C ≤ q) → N2 q = N q) → (∀ q, q ≠ b + 1 → q ≠ b + 2 → q ≠ b + 3 → q ≠ b + 17 → q ≠ b + 18 → B.2 q = A.2 q) → xx_X G l mX9_triangle 4 0 0 137 [(0, .ref b), (1, .int (nI R)), (2, .int (nI C)), (3, .int x3), (4, .int (nI k))] [] B Q) :
    ∀ (v i : Nat), i + v = C → ∀ (B : xx_H) (N2 : Nat → Int), (B.1 = A.1) → (xx_rw B b N2) → (∀ j, j < i → N2 (240 + 8 * k + j) = N (240 + 8 * p + j) ∧ N2 (240 + 8 * p + j) = N (240 + 8 * k + j)) → (∀ q, q ≠ 13 → (q < 240 + 8 * k ∨ 240 + 8 * k + i ≤ q) → (q < 240 + 8 * p ∨ 240 + 8 * p + i ≤ q) → N2 q = N q) → (∀ q, q ≠ b + 1 → q ≠ b + 2 → q ≠ b + 3 → q ≠ b + 17 → q ≠ b + 18 → B.2 q = A.2 q) → xx_X G l mX9_triangle 4 0 0 77 [(0, .ref b), (1, .int (nI R)), (2, .int (nI C)), (3, .int x3), (4, .int (nI k)), (5, .int (nI p)), (6, .int (nI i))] [] B Q := by
  intro v
  induction v with
  | zero =>
    intro i h9i B N2 y1 y2 y3 y4 y5
    have h9e : C = i := by omega
    subst h9e
    refine xx_clv (lv2 := [(0, .ref b), (1, .int (nI R)), (2, .int (nI C)), (3, .int x3), (4, .int (nI k)), (5, .int (nI p)), (6, .int (nI C))]) rfl ?_
    refine xx_iload dX9_triangle_77 rfl ?_
    refine xx_iload_n dX9_triangle_79 rfl ?_
    refine xx_icmp_ge (tgt := 137) dX9_triangle_80 (by decide) (fun j80 => ?_) (fun h => absurd (Int32.le_refl _) h)
    refine xx_less [0, 1, 2, 3, 4] ?_
    refine xx_clv (lv2 := [(0, .ref b), (1, .int (nI R)), (2, .int (nI C)), (3, .int x3), (4, .int (nI k))]) rfl ?_
    exact kC B N2 y1 y2 y3 y4 y5
  | succ v ih =>
    intro i h9i B N2 y1 y2 y3 y4 y5
    have hb2 := (y5 b (by omega) (by omega) (by omega) (by omega) (by omega)).trans hb
    refine xx_iload dX9_triangle_77 rfl ?_
    refine xx_iload_n dX9_triangle_79 rfl ?_
    refine xx_icmp_ge (tgt := 137) dX9_triangle_80 (by decide) (fun h => absurd h (nI_ge (a := i) (b := C) (by omega) (by omega))) (fun j80 => ?_)
    refine xx_aload_n dX9_triangle_83 rfl ?_
    refine xx_aload_n dX9_triangle_84 rfl ?_
    refine xx_iload dX9_triangle_85 rfl ?_
    refine xx_iload dX9_triangle_87 rfl ?_
    refine xx_callV (N := mX9_at) (vs := [.int (nI p), .int (nI i)]) (b := b) (rest := [.ref b]) (d2 := 0) (c2 := 0) (s2 := 0) (c3 := 0) (s3 := 0) dX9_triangle_89 wm_X9_199 wi_X9_at wv_X9_at (k := 9) rfl (by decide) hb2 nX9_at ⟨pX9_at, Nat.le_of_ble_eq_true rfl, by decide, Nat.le_of_ble_eq_true rfl, by decide, by decide⟩ (c_X9_at (r := p) (c := i)) (fun v9 B9 hC => ?_) (fun E9 B9 hC => absurd hC.1 (by simp))
    obtain ⟨hv9, e9⟩ := hC
    cases hv9
    refine xx_cst (st2 := [.int (nI (240 + 8 * p + i)), .ref b]) rfl ?_
    rw [e9]
    refine xx_bipush (v := 13) dX9_triangle_92 (by decide) ?_
    refine xx_callV (N := mX9_copy) (vs := [.int (nI (240 + 8 * p + i)), .int 13]) (b := b) (rest := []) (d2 := 0) (c2 := 0) (s2 := 0) (c3 := 0) (s3 := 0) dX9_triangle_94 wm_X9_98 wi_X9_copy wv_X9_copy (k := 9) rfl (by decide) hb2 nX9_copy ⟨pX9_copy, Nat.le_of_ble_eq_true rfl, by decide, Nat.le_of_ble_eq_true rfl, by decide, by decide⟩ (w_X9_copy hb2 y2 (x := 240 + 8 * p + i) (a := 13) (by omega) (by omega) (by omega)) (fun v9 Eq1 hC => ?_) (fun E9 B9 hC => absurd hC.1 (by simp))
    obtain ⟨hv9, zq1, ⟨Nq1, hNq1, vq1, fq1⟩, oq1⟩ := hC
    cases hv9
    refine xx_cst (st2 := []) rfl ?_
    have hbq1 := (oq1 b (by omega) (by omega) (by omega) (by omega) (by omega)).trans hb2
    refine xx_aload_n dX9_triangle_97 rfl ?_
    refine xx_aload_n dX9_triangle_98 rfl ?_
    refine xx_iload dX9_triangle_99 rfl ?_
    refine xx_iload dX9_triangle_101 rfl ?_
    refine xx_callV (N := mX9_at) (vs := [.int (nI k), .int (nI i)]) (b := b) (rest := [.ref b]) (d2 := 0) (c2 := 0) (s2 := 0) (c3 := 0) (s3 := 0) dX9_triangle_103 wm_X9_199 wi_X9_at wv_X9_at (k := 9) rfl (by decide) hbq1 nX9_at ⟨pX9_at, Nat.le_of_ble_eq_true rfl, by decide, Nat.le_of_ble_eq_true rfl, by decide, by decide⟩ (c_X9_at (r := k) (c := i)) (fun v9 B9 hC => ?_) (fun E9 B9 hC => absurd hC.1 (by simp))
    obtain ⟨hv9, e9⟩ := hC
    cases hv9
    refine xx_cst (st2 := [.int (nI (240 + 8 * k + i)), .ref b]) rfl ?_
    rw [e9]
    refine xx_aload_n dX9_triangle_106 rfl ?_
    refine xx_iload dX9_triangle_107 rfl ?_
    refine xx_iload dX9_triangle_109 rfl ?_
    refine xx_callV (N := mX9_at) (vs := [.int (nI p), .int (nI i)]) (b := b) (rest := [.int (nI (240 + 8 * k + i)), .ref b]) (d2 := 0) (c2 := 0) (s2 := 0) (c3 := 0) (s3 := 0) dX9_triangle_111 wm_X9_199 wi_X9_at wv_X9_at (k := 9) rfl (by decide) hbq1 nX9_at ⟨pX9_at, Nat.le_of_ble_eq_true rfl, by decide, Nat.le_of_ble_eq_true rfl, by decide, by decide⟩ (c_X9_at (r := p) (c := i)) (fun v9 B9 hC => ?_) (fun E9 B9 hC => absurd hC.1 (by simp))
    obtain ⟨hv9, e9⟩ := hC
    cases hv9
    refine xx_cst (st2 := [.int (nI (240 + 8 * p + i)), .int (nI (240 + 8 * k + i)), .ref b]) rfl ?_
    rw [e9]
    refine xx_callV (N := mX9_copy) (vs := [.int (nI (240 + 8 * k + i)), .int (nI (240 + 8 * p + i))]) (b := b) (rest := []) (d2 := 0) (c2 := 0) (s2 := 0) (c3 := 0) (s3 := 0) dX9_triangle_114 wm_X9_98 wi_X9_copy wv_X9_copy (k := 9) rfl (by decide) hbq1 nX9_copy ⟨pX9_copy, Nat.le_of_ble_eq_true rfl, by decide, Nat.le_of_ble_eq_true rfl, by decide, by decide⟩ (w_X9_copy hbq1 hNq1 (x := 240 + 8 * k + i) (a := 240 + 8 * p + i) (by omega) (by omega) (by omega)) (fun v9 Eq2 hC => ?_) (fun E9 B9 hC => absurd hC.1 (by simp))
    obtain ⟨hv9, zq2, ⟨Nq2, hNq2, vq2, fq2⟩, oq2⟩ := hC
    cases hv9
    refine xx_cst (st2 := []) rfl ?_
    have hbq2 := (oq2 b (by omega) (by omega) (by omega) (by omega) (by omega)).trans hbq1
    refine xx_aload_n dX9_triangle_117 rfl ?_
    refine xx_bipush (v := 13) dX9_triangle_118 (by decide) ?_
    refine xx_aload_n dX9_triangle_120 rfl ?_
    refine xx_iload dX9_triangle_121 rfl ?_
    refine xx_iload dX9_triangle_123 rfl ?_
    refine xx_callV (N := mX9_at) (vs := [.int (nI k), .int (nI i)]) (b := b) (rest := [.int 13, .ref b]) (d2 := 0) (c2 := 0) (s2 := 0) (c3 := 0) (s3 := 0) dX9_triangle_125 wm_X9_199 wi_X9_at wv_X9_at (k := 9) rfl (by decide) hbq2 nX9_at ⟨pX9_at, Nat.le_of_ble_eq_true rfl, by decide, Nat.le_of_ble_eq_true rfl, by decide, by decide⟩ (c_X9_at (r := k) (c := i)) (fun v9 B9 hC => ?_) (fun E9 B9 hC => absurd hC.1 (by simp))
    obtain ⟨hv9, e9⟩ := hC
    cases hv9
    refine xx_cst (st2 := [.int (nI (240 + 8 * k + i)), .int 13, .ref b]) rfl ?_
    rw [e9]
    refine xx_callV (N := mX9_copy) (vs := [.int 13, .int (nI (240 + 8 * k + i))]) (b := b) (rest := []) (d2 := 0) (c2 := 0) (s2 := 0) (c3 := 0) (s3 := 0) dX9_triangle_128 wm_X9_98 wi_X9_copy wv_X9_copy (k := 9) rfl (by decide) hbq2 nX9_copy ⟨pX9_copy, Nat.le_of_ble_eq_true rfl, by decide, Nat.le_of_ble_eq_true rfl, by decide, by decide⟩ (w_X9_copy hbq2 hNq2 (x := 13) (a := 240 + 8 * k + i) (by omega) (by omega) (by omega)) (fun v9 Eq3 hC => ?_) (fun E9 B9 hC => absurd hC.1 (by simp))
    obtain ⟨hv9, zq3, ⟨Nq3, hNq3, vq3, fq3⟩, oq3⟩ := hC
    cases hv9
    refine xx_cst (st2 := []) rfl ?_
    have hbq3 := (oq3 b (by omega) (by omega) (by omega) (by omega) (by omega)).trans hbq2
    have e1 : Nq3 (240 + 8 * k + i) = N (240 + 8 * p + i) := vq3.trans ((fq2 13 (by omega)).trans (vq1.trans (y4 _ (by omega) (by omega) (by omega))))
    have e2 : Nq3 (240 + 8 * p + i) = N (240 + 8 * k + i) := (fq3 _ (by omega)).trans (vq2.trans ((fq1 _ (by omega)).trans (y4 _ (by omega) (by omega) (by omega))))
    have e3 : ∀ q, q ≠ 13 → q ≠ 240 + 8 * p + i → q ≠ 240 + 8 * k + i → Nq3 q = N2 q := fun q a1 a2 a3 => (fq3 q a3).trans ((fq2 q a2).trans (fq1 q a1))
    refine xx_iinc (v := nI (i + 1)) dX9_triangle_131 rfl (nI_1 i) (by decide) ?_
    refine xx_clv (lv2 := [(0, .ref b), (1, .int (nI R)), (2, .int (nI C)), (3, .int x3), (4, .int (nI k)), (5, .int (nI p)), (6, .int (nI (i + 1)))]) rfl ?_
    refine xx_goto (tgt := 77) dX9_triangle_134 (by decide) ?_
    refine xx_less [0, 1, 2, 3, 4, 5, 6] ?_
    refine xx_clv (lv2 := [(0, .ref b), (1, .int (nI R)), (2, .int (nI C)), (3, .int x3), (4, .int (nI k)), (5, .int (nI p)), (6, .int (nI (i + 1)))]) rfl ?_
    refine ih (i + 1) (by omega) Eq3 Nq3 (by omega) hNq3 (fun j hj => ?_) (fun q a1 a2 a3 => (e3 q a1 (by omega) (by omega)).trans (y4 q a1 (by omega) (by omega))) (fun q a1 a2 a3 a4 a5 => (oq3 q a1 a2 a3 a4 a5).trans ((oq2 q a1 a2 a3 a4 a5).trans ((oq1 q a1 a2 a3 a4 a5).trans (y5 q a1 a2 a3 a4 a5))))
    by_cases z : j = i
    · rw [z]; exact ⟨e1, e2⟩
    · obtain ⟨g1, g2⟩ := y3 j (by omega)
      exact ⟨(e3 _ (by omega) (by omega) (by omega)).trans g1, (e3 _ (by omega) (by omega) (by omega)).trans g2⟩
set_option maxRecDepth 100000 in
theorem l_X9_tc {G : xx_G} {l : Launch} {A : xx_H} {b : Nat} {th hr st hl en tu : Value} {m n : Nat} {R C : Nat} {x3 : Int32} {N : Nat → Int} {k r : Nat} {Q : Option Value ⊕ String → xx_H → Prop} (hb : A.2 b = xx_o 9 (xx_mf b th (.int (nI m)) (.int (nI n)) hr st hl en tu)) (hR : R ≤ 7) (hC : C ≤ 8) (hRC : R ≤ C) (hkr : k < r) (hr9 : r < R) (bN : ∀ r2, r2 = k ∨ r2 = r → ∀ c, k ≤ c → c < C → (N (240 + 8 * r2 + c)).natAbs < 65536 ^ 19) (h28 : N 28 ≠ 0) (h19 : N 19 = N (240 + 8 * r + k)) (kC : ∀ (B : xx_H) (N2 : Nat → Int), (B.1 = A.1) → (k < C) → (xx_rw B b N2) → (∀ j, k < j → j < C → N2 (240 + 8 * r + j) = yy_qt (N (240 + 8 * r + j) * N (240 + 8 * k + k) - N (240 + 8 * r + k) * N (240 + 8 * k + j)) (N 28)) → (∀ q, 5 ≤ q → (q ≤ 240 + 8 * r + k ∨ 240 + 8 * r + C ≤ q) → N2 q = N q) → (∀ q, q ≠ b + 1 → q ≠ b + 2 → q ≠ b + 3 → q ≠ b + 17 → q ≠ b + 18 → B.2 q = A.2 q) → xx_X G l mX9_triangle 4 0 0 221 [(0, .ref b), (1, .int (nI R)), (2, .int (nI C)), (3, .int x3), (4, .int (nI k)), (6, .int (nI r))] [] B Q) :
    ∀ (v i : Nat), i + v = C → ∀ (B : xx_H) (N2 : Nat → Int), (B.1 = A.1) → (k < i) → (xx_rw B b N2) → (∀ j, k < j → j < i → N2 (240 + 8 * r + j) = yy_qt (N (240 + 8 * r + j) * N (240 + 8 * k + k) - N (240 + 8 * r + k) * N (240 + 8 * k + j)) (N 28)) → (∀ q, 5 ≤ q → (q ≤ 240 + 8 * r + k ∨ 240 + 8 * r + i ≤ q) → N2 q = N q) → (∀ q, q ≠ b + 1 → q ≠ b + 2 → q ≠ b + 3 → q ≠ b + 17 → q ≠ b + 18 → B.2 q = A.2 q) → xx_X G l mX9_triangle 4 0 0 169 [(0, .ref b), (1, .int (nI R)), (2, .int (nI C)), (3, .int x3), (4, .int (nI k)), (6, .int (nI r)), (7, .int (nI i))] [] B Q := by
  intro v
  induction v with
  | zero =>
    intro i h9i B N2 y1 y0 y2 y3 y4 y5
    have h9e : C = i := by omega
    subst h9e
    refine xx_clv (lv2 := [(0, .ref b), (1, .int (nI R)), (2, .int (nI C)), (3, .int x3), (4, .int (nI k)), (6, .int (nI r)), (7, .int (nI C))]) rfl ?_
    refine xx_iload dX9_triangle_169 rfl ?_
    refine xx_iload_n dX9_triangle_171 rfl ?_
    refine xx_icmp_ge (tgt := 221) dX9_triangle_172 (by decide) (fun j172 => ?_) (fun h => absurd (Int32.le_refl _) h)
    refine xx_less [0, 1, 2, 3, 4, 6] ?_
    refine xx_clv (lv2 := [(0, .ref b), (1, .int (nI R)), (2, .int (nI C)), (3, .int x3), (4, .int (nI k)), (6, .int (nI r))]) rfl ?_
    exact kC B N2 y1 y0 y2 y3 y4 y5
  | succ v ih =>
    intro i h9i B N2 y1 y0 y2 y3 y4 y5
    have hb2 := (y5 b (by omega) (by omega) (by omega) (by omega) (by omega)).trans hb
    refine xx_iload dX9_triangle_169 rfl ?_
    refine xx_iload_n dX9_triangle_171 rfl ?_
    refine xx_icmp_ge (tgt := 221) dX9_triangle_172 (by decide) (fun h => absurd h (nI_ge (a := i) (b := C) (by omega) (by omega))) (fun j172 => ?_)
    refine xx_aload_n dX9_triangle_175 rfl ?_
    refine xx_aload_n dX9_triangle_176 rfl ?_
    refine xx_iload dX9_triangle_177 rfl ?_
    refine xx_iload dX9_triangle_179 rfl ?_
    refine xx_callV (N := mX9_at) (vs := [.int (nI r), .int (nI i)]) (b := b) (rest := [.ref b]) (d2 := 0) (c2 := 0) (s2 := 0) (c3 := 0) (s3 := 0) dX9_triangle_181 wm_X9_199 wi_X9_at wv_X9_at (k := 9) rfl (by decide) hb2 nX9_at ⟨pX9_at, Nat.le_of_ble_eq_true rfl, by decide, Nat.le_of_ble_eq_true rfl, by decide, by decide⟩ (c_X9_at (r := r) (c := i)) (fun v9 B9 hC => ?_) (fun E9 B9 hC => absurd hC.1 (by simp))
    obtain ⟨hv9, e9⟩ := hC
    cases hv9
    refine xx_cst (st2 := [.int (nI (240 + 8 * r + i)), .ref b]) rfl ?_
    rw [e9]
    refine xx_aload_n dX9_triangle_184 rfl ?_
    refine xx_iload dX9_triangle_185 rfl ?_
    refine xx_iload dX9_triangle_187 rfl ?_
    refine xx_callV (N := mX9_at) (vs := [.int (nI k), .int (nI k)]) (b := b) (rest := [.int (nI (240 + 8 * r + i)), .ref b]) (d2 := 0) (c2 := 0) (s2 := 0) (c3 := 0) (s3 := 0) dX9_triangle_189 wm_X9_199 wi_X9_at wv_X9_at (k := 9) rfl (by decide) hb2 nX9_at ⟨pX9_at, Nat.le_of_ble_eq_true rfl, by decide, Nat.le_of_ble_eq_true rfl, by decide, by decide⟩ (c_X9_at (r := k) (c := k)) (fun v9 B9 hC => ?_) (fun E9 B9 hC => absurd hC.1 (by simp))
    obtain ⟨hv9, e9⟩ := hC
    cases hv9
    refine xx_cst (st2 := [.int (nI (240 + 8 * k + k)), .int (nI (240 + 8 * r + i)), .ref b]) rfl ?_
    rw [e9]
    refine xx_bipush (v := 19) dX9_triangle_192 (by decide) ?_
    refine xx_aload_n dX9_triangle_194 rfl ?_
    refine xx_iload dX9_triangle_195 rfl ?_
    refine xx_iload dX9_triangle_197 rfl ?_
    refine xx_callV (N := mX9_at) (vs := [.int (nI k), .int (nI i)]) (b := b) (rest := [.int 19, .int (nI (240 + 8 * k + k)), .int (nI (240 + 8 * r + i)), .ref b]) (d2 := 0) (c2 := 0) (s2 := 0) (c3 := 0) (s3 := 0) dX9_triangle_199 wm_X9_199 wi_X9_at wv_X9_at (k := 9) rfl (by decide) hb2 nX9_at ⟨pX9_at, Nat.le_of_ble_eq_true rfl, by decide, Nat.le_of_ble_eq_true rfl, by decide, by decide⟩ (c_X9_at (r := k) (c := i)) (fun v9 B9 hC => ?_) (fun E9 B9 hC => absurd hC.1 (by simp))
    obtain ⟨hv9, e9⟩ := hC
    cases hv9
    refine xx_cst (st2 := [.int (nI (240 + 8 * k + i)), .int 19, .int (nI (240 + 8 * k + k)), .int (nI (240 + 8 * r + i)), .ref b]) rfl ?_
    rw [e9]
    refine xx_bipush (v := 28) dX9_triangle_202 (by decide) ?_
    refine xx_aload_n dX9_triangle_204 rfl ?_
    refine xx_iload dX9_triangle_205 rfl ?_
    refine xx_iload dX9_triangle_207 rfl ?_
    refine xx_callV (N := mX9_at) (vs := [.int (nI r), .int (nI i)]) (b := b) (rest := [.int 28, .int (nI (240 + 8 * k + i)), .int 19, .int (nI (240 + 8 * k + k)), .int (nI (240 + 8 * r + i)), .ref b]) (d2 := 0) (c2 := 0) (s2 := 0) (c3 := 0) (s3 := 0) dX9_triangle_209 wm_X9_199 wi_X9_at wv_X9_at (k := 9) rfl (by decide) hb2 nX9_at ⟨pX9_at, Nat.le_of_ble_eq_true rfl, by decide, Nat.le_of_ble_eq_true rfl, by decide, by decide⟩ (c_X9_at (r := r) (c := i)) (fun v9 B9 hC => ?_) (fun E9 B9 hC => absurd hC.1 (by simp))
    obtain ⟨hv9, e9⟩ := hC
    cases hv9
    refine xx_cst (st2 := [.int (nI (240 + 8 * r + i)), .int 28, .int (nI (240 + 8 * k + i)), .int 19, .int (nI (240 + 8 * k + k)), .int (nI (240 + 8 * r + i)), .ref b]) rfl ?_
    rw [e9]
    have g1 : N2 (240 + 8 * r + i) = N (240 + 8 * r + i) := y4 _ (by omega) (by omega)
    have g2 : N2 (240 + 8 * k + k) = N (240 + 8 * k + k) := y4 _ (by omega) (by omega)
    have g3 : N2 19 = N (240 + 8 * r + k) := (y4 _ (by omega) (by omega)).trans h19
    have g4 : N2 (240 + 8 * k + i) = N (240 + 8 * k + i) := y4 _ (by omega) (by omega)
    have g5 : N2 28 = N 28 := y4 _ (by omega) (by omega)
    refine xx_callV (N := mX9_cross) (vs := [.int (nI (240 + 8 * r + i)), .int (nI (240 + 8 * k + k)), .int 19, .int (nI (240 + 8 * k + i)), .int 28, .int (nI (240 + 8 * r + i))]) (b := b) (rest := []) (d2 := 3) (c2 := 0) (s2 := 0) (c3 := 0) (s3 := 0) dX9_triangle_212 wm_X9_166 wi_X9_cross wv_X9_cross (k := 9) rfl (by decide) hb2 nX9_cross ⟨pX9_cross, Nat.le_of_ble_eq_true rfl, by decide, Nat.le_of_ble_eq_true rfl, by decide, by decide⟩ (c_X9_cross (x := 240 + 8 * r + i) (y := 240 + 8 * k + k) (e := 19) (f := 240 + 8 * k + i) (g := 28) (c := 240 + 8 * r + i) hb2 y2 (by omega) (by omega) (by omega) (by omega) (by omega) (by omega) (by omega) (by omega) (by omega) (by omega) (by omega) (by omega) (by rw [g1]; exact bN r (Or.inr rfl) i (by omega) (by omega)) (by rw [g2]; exact bN k (Or.inl rfl) k (by omega) (by omega)) (by rw [g3]; exact bN r (Or.inr rfl) k (by omega) (by omega)) (by rw [g4]; exact bN k (Or.inl rfl) i (by omega) (by omega)) (by rw [g5]; exact h28)) (fun v9 Eq1 hC => ?_) (fun E9 B9 hC => absurd hC.1 (by simp))
    obtain ⟨hv9, zq1, ⟨Nq1, hNq1, vq1, fq1⟩, oq1⟩ := hC
    cases hv9
    refine xx_cst (st2 := []) rfl ?_
    rw [g1, g2, g3, g4, g5] at vq1
    refine xx_iinc (v := nI (i + 1)) dX9_triangle_215 rfl (nI_1 i) (by decide) ?_
    refine xx_clv (lv2 := [(0, .ref b), (1, .int (nI R)), (2, .int (nI C)), (3, .int x3), (4, .int (nI k)), (6, .int (nI r)), (7, .int (nI (i + 1)))]) rfl ?_
    refine xx_goto (tgt := 169) dX9_triangle_218 (by decide) ?_
    refine xx_less [0, 1, 2, 3, 4, 6, 7] ?_
    refine xx_clv (lv2 := [(0, .ref b), (1, .int (nI R)), (2, .int (nI C)), (3, .int x3), (4, .int (nI k)), (6, .int (nI r)), (7, .int (nI (i + 1)))]) rfl ?_
    refine ih (i + 1) (by omega) Eq1 Nq1 (by omega) (by omega) hNq1 (fun j a1 a2 => ?_) (fun q a1 a2 => (fq1 q a1 (by omega)).trans (y4 q a1 (by omega))) (fun q a1 a2 a3 a4 a5 => (oq1 q a1 a2 a3 a4 a5).trans (y5 q a1 a2 a3 a4 a5))
    by_cases z : j = i
    · rw [z]; exact vq1
    · exact (fq1 _ (by omega) (by omega)).trans (y3 j a1 (by omega))
set_option maxRecDepth 100000 in
theorem l_X9_tr {G : xx_G} {l : Launch} {A : xx_H} {b : Nat} {th hr st hl en tu : Value} {m n : Nat} {R C : Nat} {x3 : Int32} {N : Nat → Int} {k : Nat} {Q : Option Value ⊕ String → xx_H → Prop} (hb : A.2 b = xx_o 9 (xx_mf b th (.int (nI m)) (.int (nI n)) hr st hl en tu)) (hR : R ≤ 7) (hC : C ≤ 8) (hRC : R ≤ C) (bN : ∀ r, k ≤ r → r < R → ∀ c, k ≤ c → c < C → (N (240 + 8 * r + c)).natAbs < 65536 ^ 19) (h28 : N 28 ≠ 0) (kC : ∀ (B : xx_H) (N2 : Nat → Int), (B.1 = A.1) → (k < R) → (xx_rw B b N2) → (∀ r, k < r → r < R → ∀ c, k < c → c < C → N2 (240 + 8 * r + c) = yy_qt (N (240 + 8 * r + c) * N (240 + 8 * k + k) - N (240 + 8 * r + k) * N (240 + 8 * k + c)) (N 28)) → (∀ q, 5 ≤ q → q ≠ 19 → (q < 240 + 8 * (k + 1) ∨ 240 + 8 * R ≤ q) → N2 q = N q) → (∀ q, q ≠ b + 1 → q ≠ b + 2 → q ≠ b + 3 → q ≠ b + 17 → q ≠ b + 18 → B.2 q = A.2 q) → xx_X G l mX9_triangle 4 0 0 227 [(0, .ref b), (1, .int (nI R)), (2, .int (nI C)), (3, .int x3), (4, .int (nI k))] [] B Q) :
    ∀ (v i : Nat), i + v = R → ∀ (B : xx_H) (N2 : Nat → Int), (B.1 = A.1) → (k < i) → (xx_rw B b N2) → (∀ r, k < r → r < i → ∀ c, k < c → c < C → N2 (240 + 8 * r + c) = yy_qt (N (240 + 8 * r + c) * N (240 + 8 * k + k) - N (240 + 8 * r + k) * N (240 + 8 * k + c)) (N 28)) → (∀ q, 5 ≤ q → q ≠ 19 → (q < 240 + 8 * (k + 1) ∨ 240 + 8 * i ≤ q) → N2 q = N q) → (∀ q, q ≠ b + 1 → q ≠ b + 2 → q ≠ b + 3 → q ≠ b + 17 → q ≠ b + 18 → B.2 q = A.2 q) → xx_X G l mX9_triangle 4 0 0 143 [(0, .ref b), (1, .int (nI R)), (2, .int (nI C)), (3, .int x3), (4, .int (nI k)), (6, .int (nI i))] [] B Q := by
  intro v
  induction v with
  | zero =>
    intro i h9i B N2 y1 y0 y2 y3 y4 y5
    have h9e : R = i := by omega
    subst h9e
    refine xx_clv (lv2 := [(0, .ref b), (1, .int (nI R)), (2, .int (nI C)), (3, .int x3), (4, .int (nI k)), (6, .int (nI R))]) rfl ?_
    refine xx_iload dX9_triangle_143 rfl ?_
    refine xx_iload_n dX9_triangle_145 rfl ?_
    refine xx_icmp_ge (tgt := 227) dX9_triangle_146 (by decide) (fun j146 => ?_) (fun h => absurd (Int32.le_refl _) h)
    refine xx_less [0, 1, 2, 3, 4] ?_
    refine xx_clv (lv2 := [(0, .ref b), (1, .int (nI R)), (2, .int (nI C)), (3, .int x3), (4, .int (nI k))]) rfl ?_
    exact kC B N2 y1 y0 y2 y3 y4 y5
  | succ v ih =>
    intro i h9i B N2 y1 y0 y2 y3 y4 y5
    have hb2 := (y5 b (by omega) (by omega) (by omega) (by omega) (by omega)).trans hb
    refine xx_iload dX9_triangle_143 rfl ?_
    refine xx_iload_n dX9_triangle_145 rfl ?_
    refine xx_icmp_ge (tgt := 227) dX9_triangle_146 (by decide) (fun h => absurd h (nI_ge (a := i) (b := R) (by omega) (by omega))) (fun j146 => ?_)
    refine xx_aload_n dX9_triangle_149 rfl ?_
    refine xx_aload_n dX9_triangle_150 rfl ?_
    refine xx_iload dX9_triangle_151 rfl ?_
    refine xx_iload dX9_triangle_153 rfl ?_
    refine xx_callV (N := mX9_at) (vs := [.int (nI i), .int (nI k)]) (b := b) (rest := [.ref b]) (d2 := 0) (c2 := 0) (s2 := 0) (c3 := 0) (s3 := 0) dX9_triangle_155 wm_X9_199 wi_X9_at wv_X9_at (k := 9) rfl (by decide) hb2 nX9_at ⟨pX9_at, Nat.le_of_ble_eq_true rfl, by decide, Nat.le_of_ble_eq_true rfl, by decide, by decide⟩ (c_X9_at (r := i) (c := k)) (fun v9 B9 hC => ?_) (fun E9 B9 hC => absurd hC.1 (by simp))
    obtain ⟨hv9, e9⟩ := hC
    cases hv9
    refine xx_cst (st2 := [.int (nI (240 + 8 * i + k)), .ref b]) rfl ?_
    rw [e9]
    refine xx_bipush (v := 19) dX9_triangle_158 (by decide) ?_
    refine xx_callV (N := mX9_copy) (vs := [.int (nI (240 + 8 * i + k)), .int 19]) (b := b) (rest := []) (d2 := 0) (c2 := 0) (s2 := 0) (c3 := 0) (s3 := 0) dX9_triangle_160 wm_X9_98 wi_X9_copy wv_X9_copy (k := 9) rfl (by decide) hb2 nX9_copy ⟨pX9_copy, Nat.le_of_ble_eq_true rfl, by decide, Nat.le_of_ble_eq_true rfl, by decide, by decide⟩ (w_X9_copy hb2 y2 (x := 240 + 8 * i + k) (a := 19) (by omega) (by omega) (by omega)) (fun v9 Eq1 hC => ?_) (fun E9 B9 hC => absurd hC.1 (by simp))
    obtain ⟨hv9, zq1, ⟨Nq1, hNq1, vq1, fq1⟩, oq1⟩ := hC
    cases hv9
    refine xx_cst (st2 := []) rfl ?_
    have hbq1 := (oq1 b (by omega) (by omega) (by omega) (by omega) (by omega)).trans hb2
    refine xx_iload dX9_triangle_163 rfl ?_
    refine xx_iconst (v := 1) dX9_triangle_165 (by decide) ?_
    refine xx_iadd dX9_triangle_166 ?_
    refine xx_eqi (y := nI (k + 1)) (nI_add k 1) ?_
    refine xx_istore dX9_triangle_167 (by decide) ?_
    refine xx_clv (lv2 := [(0, .ref b), (1, .int (nI R)), (2, .int (nI C)), (3, .int x3), (4, .int (nI k)), (6, .int (nI i)), (7, .int (nI (k + 1)))]) rfl ?_
    have w1 : ∀ q, 5 ≤ q → q ≠ 19 → (q < 240 + 8 * (k + 1) ∨ 240 + 8 * i ≤ q) → Nq1 q = N q := fun q a1 a2 a3 => (fq1 q a2).trans (y4 q a1 a2 a3)
    refine xx_less [0, 1, 2, 3, 4, 6, 7] ?_
    refine xx_clv (lv2 := [(0, .ref b), (1, .int (nI R)), (2, .int (nI C)), (3, .int x3), (4, .int (nI k)), (6, .int (nI i)), (7, .int (nI (k + 1)))]) rfl ?_
    refine l_X9_tc (A := Eq1) (N := Nq1) (r := i) hbq1 hR hC hRC (by omega) (by omega) (fun r a1 c a3 a4 => ?_) (by rw [w1 28 (by omega) (by omega) (by omega)]; exact h28) (vq1.trans (fq1 _ (by omega)).symm) (fun D N3 p1 p0 p2 p3 p4 p5 => ?_) (C - (k + 1)) (k + 1) (by omega) Eq1 Nq1 rfl (by omega) hNq1 (fun j a1 a2 => absurd a1 (by omega)) (fun q _ _ => rfl) (fun q _ _ _ _ _ => rfl)
    · rw [w1 _ (by omega) (by omega) (by omega)]; exact bN r (by omega) (by omega) c a3 a4
    refine xx_iinc (v := nI (i + 1)) dX9_triangle_221 rfl (nI_1 i) (by decide) ?_
    refine xx_clv (lv2 := [(0, .ref b), (1, .int (nI R)), (2, .int (nI C)), (3, .int x3), (4, .int (nI k)), (6, .int (nI (i + 1)))]) rfl ?_
    refine xx_goto (tgt := 143) dX9_triangle_224 (by decide) ?_
    refine xx_less [0, 1, 2, 3, 4, 6] ?_
    refine xx_clv (lv2 := [(0, .ref b), (1, .int (nI R)), (2, .int (nI C)), (3, .int x3), (4, .int (nI k)), (6, .int (nI (i + 1)))]) rfl ?_
    refine ih (i + 1) (by omega) D N3 (by omega) (by omega) p2 (fun r a1 a2 c a3 a4 => ?_) (fun q a1 a2 a3 => (p4 q a1 (by omega)).trans (w1 q a1 a2 (by omega))) (fun q a1 a2 a3 a4 a5 => (p5 q a1 a2 a3 a4 a5).trans ((oq1 q a1 a2 a3 a4 a5).trans (y5 q a1 a2 a3 a4 a5)))
    by_cases z : r = i
    · subst z
      rw [p3 c a3 a4, w1 _ (by omega) (by omega) (by omega), w1 _ (by omega) (by omega) (by omega), w1 _ (by omega) (by omega) (by omega), w1 _ (by omega) (by omega) (by omega), w1 28 (by omega) (by omega) (by omega)]
    · rw [p4 _ (by omega) (by omega), fq1 _ (by omega)]; exact y3 r a1 (by omega) c a3 a4
set_option maxRecDepth 100000 in
theorem l_X9_tq {G : xx_G} {l : Launch} {A : xx_H} {b : Nat} {th hr st hl en tu : Value} {m n : Nat} {R C : Nat} {x3 : Int32} {N : Nat → Int} {M : Nat → Nat → Int} {k : Nat} {bs : Nat → Nat} {s : Int} {Q : Option Value ⊕ String → xx_H → Prop} (hb : A.2 b = xx_o 9 (xx_mf b th (.int (nI m)) (.int (nI n)) hr st hl en tu)) (hN : xx_rw A b N) (hR : R ≤ 7) (hC : C ≤ 8) (hRC : R ≤ C) (hM : ∀ c r, (M c r).natAbs ≤ 554344561) (hk : k < R) (hI : yj_I R C M k bs s N) (h0 : N (240 + 8 * k + k) ≠ 0) (kC : ∀ (B : xx_H) (N2 : Nat → Int), B.1 = A.1 → xx_rw B b N2 → yj_I R C M (k + 1) (yy_ud bs k k) s N2 → N2 (240 + 8 * k + k) = N2 28 → (∀ q, 5 ≤ q → q ≠ 13 → q ≠ 19 → q ≠ 28 → (q < 240 ∨ 296 ≤ q) → N2 q = N q) → (∀ q, q ≠ b + 1 → q ≠ b + 2 → q ≠ b + 3 → q ≠ b + 17 → q ≠ b + 18 → B.2 q = A.2 q) → xx_X G l mX9_triangle 4 0 0 12 [(0, .ref b), (1, .int (nI R)), (2, .int (nI C)), (3, .int x3), (4, .int (nI (k + 1)))] [] B Q) : xx_X G l mX9_triangle 4 0 0 137 [(0, .ref b), (1, .int (nI R)), (2, .int (nI C)), (3, .int x3), (4, .int (nI k))] [] A Q := by
  have bN : ∀ r, k ≤ r → r < R → ∀ c, k ≤ c → c < C → (N (240 + 8 * r + c)).natAbs < 65536 ^ 19 := fun r a1 a2 c a3 a4 => by
    rw [hI.2.2.2.2.1 r a1 a2 c a3 a4, yj_sa hI.1]
    exact yj_p19 (yj_bd hM hR bs r c).1
  have h28 : N 28 ≠ 0 := by rw [hI.2.2.2.1]; exact (yj_s0 hI.1).mpr hI.2.2.1
  refine xx_iload dX9_triangle_137 rfl ?_
  refine xx_iconst (v := 1) dX9_triangle_139 (by decide) ?_
  refine xx_iadd dX9_triangle_140 ?_
  refine xx_eqi (y := nI (k + 1)) (nI_add k 1) ?_
  refine xx_istore dX9_triangle_141 (by decide) ?_
  refine xx_clv (lv2 := [(0, .ref b), (1, .int (nI R)), (2, .int (nI C)), (3, .int x3), (4, .int (nI k)), (6, .int (nI (k + 1)))]) rfl ?_
  refine l_X9_tr hb hR hC hRC bN h28 (fun B N2 y1 y0 y2 y3 y4 y5 => ?_) (R - (k + 1)) (k + 1) (by omega) A N rfl (by omega) hN (fun r a1 a2 => absurd a1 (by omega)) (fun q _ _ _ => rfl) (fun q _ _ _ _ _ => rfl)
  have hb2 := (y5 b (by omega) (by omega) (by omega) (by omega) (by omega)).trans hb
  refine xx_aload_n dX9_triangle_227 rfl ?_
  refine xx_aload_n dX9_triangle_228 rfl ?_
  refine xx_iload dX9_triangle_229 rfl ?_
  refine xx_iload dX9_triangle_231 rfl ?_
  refine xx_callV (N := mX9_at) (vs := [.int (nI k), .int (nI k)]) (b := b) (rest := [.ref b]) (d2 := 0) (c2 := 0) (s2 := 0) (c3 := 0) (s3 := 0) dX9_triangle_233 wm_X9_199 wi_X9_at wv_X9_at (k := 9) rfl (by decide) hb2 nX9_at ⟨pX9_at, Nat.le_of_ble_eq_true rfl, by decide, Nat.le_of_ble_eq_true rfl, by decide, by decide⟩ (c_X9_at (r := k) (c := k)) (fun v9 B9 hC => ?_) (fun E9 B9 hC => absurd hC.1 (by simp))
  obtain ⟨hv9, e9⟩ := hC
  cases hv9
  refine xx_cst (st2 := [.int (nI (240 + 8 * k + k)), .ref b]) rfl ?_
  rw [e9]
  refine xx_bipush (v := 28) dX9_triangle_236 (by decide) ?_
  refine xx_callV (N := mX9_copy) (vs := [.int (nI (240 + 8 * k + k)), .int 28]) (b := b) (rest := []) (d2 := 0) (c2 := 0) (s2 := 0) (c3 := 0) (s3 := 0) dX9_triangle_238 wm_X9_98 wi_X9_copy wv_X9_copy (k := 9) rfl (by decide) hb2 nX9_copy ⟨pX9_copy, Nat.le_of_ble_eq_true rfl, by decide, Nat.le_of_ble_eq_true rfl, by decide, by decide⟩ (w_X9_copy hb2 y2 (x := 240 + 8 * k + k) (a := 28) (by omega) (by omega) (by omega)) (fun v9 Eq1 hC => ?_) (fun E9 B9 hC => absurd hC.1 (by simp))
  obtain ⟨hv9, zq1, ⟨Nq1, hNq1, vq1, fq1⟩, oq1⟩ := hC
  cases hv9
  refine xx_cst (st2 := []) rfl ?_
  have hbq1 := (oq1 b (by omega) (by omega) (by omega) (by omega) (by omega)).trans hb2
  refine xx_iinc (v := nI (k + 1)) dX9_triangle_241 rfl (nI_1 k) (by decide) ?_
  refine xx_clv (lv2 := [(0, .ref b), (1, .int (nI R)), (2, .int (nI C)), (3, .int x3), (4, .int (nI (k + 1)))]) rfl ?_
  refine xx_goto (tgt := 12) dX9_triangle_244 (by decide) ?_
  refine kC Eq1 Nq1 (by omega) hNq1 (yj_piv hI hk hRC h0 ?_ (fun r a1 a2 c a3 a4 => ?_) (fun r a1 c a2 => ?_)) ?_ (fun q a1 a2 a3 a4 a5 => (fq1 q a4).trans (y4 q a1 a3 (by omega))) (fun q a1 a2 a3 a4 a5 => (oq1 q a1 a2 a3 a4 a5).trans (y5 q a1 a2 a3 a4 a5))
  · rw [vq1]; exact y4 _ (by omega) (by omega) (by omega)
  · rw [fq1 _ (by omega)]; exact y3 r a1 a2 c a3 a4
  · rw [fq1 _ (by omega)]; exact y4 _ (by omega) (by omega) (by omega)
  · rw [fq1 _ (by omega), vq1]
set_option maxRecDepth 100000 in
theorem l_X9_tk {G : xx_G} {l : Launch} {A : xx_H} {b : Nat} {th hr st hl en tu : Value} {m n : Nat} {R C : Nat} {N : Nat → Int} {M : Nat → Nat → Int} {Q : Option Value ⊕ String → xx_H → Prop} (hb : A.2 b = xx_o 9 (xx_mf b th (.int (nI m)) (.int (nI n)) hr st hl en tu)) (hR : R ≤ 7) (hC : C ≤ 8) (hRC : R ≤ C) (hM : ∀ c r, (M c r).natAbs ≤ 554344561) (kZ : ∀ (B : xx_H) (N2 : Nat → Int), B.1 = A.1 → xx_rw B b N2 → N2 28 = 0 → yj_D R M = 0 → (∀ q, 5 ≤ q → q ≠ 13 → q ≠ 19 → q ≠ 28 → (q < 240 ∨ 296 ≤ q) → N2 q = N q) → (∀ q, q ≠ b + 1 → q ≠ b + 2 → q ≠ b + 3 → q ≠ b + 17 → q ≠ b + 18 → B.2 q = A.2 q) → Q (.inl none) B) (kC : ∀ (B : xx_H) (N2 : Nat → Int) (bs : Nat → Nat) (s : Int), (B.1 = A.1) → (xx_rw B b N2) → (yj_I R C M R bs s N2) → (R = 0 ∨ N2 (240 + 8 * (R - 1) + (R - 1)) = N2 28) → (∀ q, 5 ≤ q → q ≠ 13 → q ≠ 19 → q ≠ 28 → (q < 240 ∨ 296 ≤ q) → N2 q = N q) → (∀ q, q ≠ b + 1 → q ≠ b + 2 → q ≠ b + 3 → q ≠ b + 17 → q ≠ b + 18 → B.2 q = A.2 q) → xx_X G l mX9_triangle 4 0 0 247 [(0, .ref b), (3, .int (iz s))] [] B Q) :
    ∀ (v i : Nat), i + v = R → ∀ (B : xx_H) (N2 : Nat → Int) (bs : Nat → Nat) (s : Int), (B.1 = A.1) → (xx_rw B b N2) → (yj_I R C M i bs s N2) → (i = 0 ∨ N2 (240 + 8 * (i - 1) + (i - 1)) = N2 28) → (∀ q, 5 ≤ q → q ≠ 13 → q ≠ 19 → q ≠ 28 → (q < 240 ∨ 296 ≤ q) → N2 q = N q) → (∀ q, q ≠ b + 1 → q ≠ b + 2 → q ≠ b + 3 → q ≠ b + 17 → q ≠ b + 18 → B.2 q = A.2 q) → xx_X G l mX9_triangle 4 0 0 12 [(0, .ref b), (1, .int (nI R)), (2, .int (nI C)), (3, .int (iz s)), (4, .int (nI i))] [] B Q := by
  intro v
  induction v with
  | zero =>
    intro i h9i B N2 bs s y1 y2 y3 y6 y4 y5
    have h9e : R = i := by omega
    subst h9e
    refine xx_clv (lv2 := [(0, .ref b), (1, .int (nI R)), (2, .int (nI C)), (3, .int (iz s)), (4, .int (nI R))]) rfl ?_
    refine xx_iload dX9_triangle_12 rfl ?_
    refine xx_iload_n dX9_triangle_14 rfl ?_
    refine xx_icmp_ge (tgt := 247) dX9_triangle_15 (by decide) (fun j15 => ?_) (fun h => absurd (Int32.le_refl _) h)
    refine xx_less [0, 3] ?_
    refine xx_clv (lv2 := [(0, .ref b), (3, .int (iz s))]) rfl ?_
    exact kC B N2 bs s y1 y2 y3 y6 y4 y5
  | succ v ih =>
    intro i h9i B N2 bs s y1 y2 y3 y6 y4 y5
    have hb2 := (y5 b (by omega) (by omega) (by omega) (by omega) (by omega)).trans hb
    refine xx_iload dX9_triangle_12 rfl ?_
    refine xx_iload_n dX9_triangle_14 rfl ?_
    refine xx_icmp_ge (tgt := 247) dX9_triangle_15 (by decide) (fun h => absurd h (nI_ge (a := i) (b := R) (by omega) (by omega))) (fun j15 => ?_)
    refine xx_iload dX9_triangle_18 rfl ?_
    refine xx_istore dX9_triangle_20 (by decide) ?_
    refine xx_clv (lv2 := [(0, .ref b), (1, .int (nI R)), (2, .int (nI C)), (3, .int (iz s)), (4, .int (nI i)), (5, .int (nI i))]) rfl ?_
    refine xx_clv (lv2 := [(0, .ref b), (1, .int (nI R)), (2, .int (nI C)), (3, .int (iz s)), (4, .int (nI i)), (5, .int (nI i))]) rfl ?_
    refine l_X9_tp hb2 y2 hR (by omega) (fun p p1 p2 p3 p4 => ?_) (R - i) i (by omega) (Nat.le_refl _) (fun j a1 a2 => absurd a1 (by omega))
    refine xx_iload dX9_triangle_50 rfl ?_
    refine xx_iload_n dX9_triangle_52 rfl ?_
    refine xx_icmp_ne (tgt := 64) dX9_triangle_53 (by decide) (fun j53 => ?_) (fun j53 => ?_)
    · have j53 : ¬ p = R := fun hq9 => j53 ((nI_eq (a := p) (b := R) (by omega) (by omega)).mpr hq9)
      refine xx_iload dX9_triangle_64 rfl ?_
      refine xx_iload dX9_triangle_66 rfl ?_
      refine xx_icmp_eq (tgt := 137) dX9_triangle_68 (by decide) (fun j68 => ?_) (fun j68 => ?_)
      · have j68 : p = i := (nI_eq (a := p) (b := i) (by omega) (by omega)).mp j68
        have p0 : N2 (240 + 8 * i + i) ≠ 0 := by have := p4 (by omega); rw [j68] at this; exact this
        refine xx_less [0, 1, 2, 3, 4] ?_
        refine xx_clv (lv2 := [(0, .ref b), (1, .int (nI R)), (2, .int (nI C)), (3, .int (iz s)), (4, .int (nI i))]) rfl ?_
        refine l_X9_tq (A := B) hb2 y2 hR hC hRC hM (by omega) y3 p0 (fun D N3 w1 w2 w3 w4 w5 w6 => ?_)
        refine ih (i + 1) (by omega) D N3 _ _ (by omega) w2 w3 (Or.inr w4) (fun q a1 a2 a3 a4 a5 => (w5 q a1 a2 a3 a4 a5).trans (y4 q a1 a2 a3 a4 a5)) (fun q a1 a2 a3 a4 a5 => (w6 q a1 a2 a3 a4 a5).trans (y5 q a1 a2 a3 a4 a5))
      · have j68 : ¬ p = i := fun hq9 => j68 ((nI_eq (a := p) (b := i) (by omega) (by omega)).mpr hq9)
        refine xx_iload_n dX9_triangle_71 rfl ?_
        refine xx_ineg dX9_triangle_72 ?_
        refine xx_eqi (y := iz (-s)) (yj_ng y3.1) ?_
        refine xx_istore_n dX9_triangle_73 (by decide) ?_
        refine xx_clv (lv2 := [(0, .ref b), (1, .int (nI R)), (2, .int (nI C)), (3, .int (iz (-s))), (4, .int (nI i)), (5, .int (nI p))]) rfl ?_
        refine xx_iconst (v := 0) dX9_triangle_74 (by decide) ?_
        refine xx_istore dX9_triangle_75 (by decide) ?_
        refine xx_clv (lv2 := [(0, .ref b), (1, .int (nI R)), (2, .int (nI C)), (3, .int (iz (-s))), (4, .int (nI i)), (5, .int (nI p)), (6, .int 0)]) rfl ?_
        refine xx_clv (lv2 := [(0, .ref b), (1, .int (nI R)), (2, .int (nI C)), (3, .int (iz (-s))), (4, .int (nI i)), (5, .int (nI p)), (6, .int (nI 0))]) rfl ?_
        refine l_X9_ts (A := B) (N := N2) (k := i) (p := p) hb2 hC (by omega) (by omega) (fun D N3 w1 w2 w3 w4 w5 => ?_) C 0 (by omega) B N2 rfl y2 (fun j hj => absurd hj (Nat.not_lt_zero j)) (fun q _ _ _ => rfl) (fun q _ _ _ _ _ => rfl)
        have hb3 := (w5 b (by omega) (by omega) (by omega) (by omega) (by omega)).trans hb2
        have I3 : yj_I R C M i (yj_x bs i p) (-s) N3 := yj_sw y3 (by omega) (by omega) hC (w4 28 (by omega) (by omega) (by omega)) (fun c hc => (w3 c hc).1) (fun c hc => (w3 c hc).2) (fun r a1 a2 a3 c a4 => w4 _ (by omega) (by omega) (by omega))
        have p0 : N3 (240 + 8 * i + i) ≠ 0 := by rw [(w3 i (by omega)).1]; exact p4 (by omega)
        refine l_X9_tq (A := D) hb3 w2 hR hC hRC hM (by omega) I3 p0 (fun F N4 v1 v2 v3 v4 v5 v6 => ?_)
        refine ih (i + 1) (by omega) F N4 _ _ (by omega) v2 v3 (Or.inr v4) (fun q a1 a2 a3 a4 a5 => (v5 q a1 a2 a3 a4 a5).trans ((w4 q a2 (by omega) (by omega)).trans (y4 q a1 a2 a3 a4 a5))) (fun q a1 a2 a3 a4 a5 => (v6 q a1 a2 a3 a4 a5).trans ((w5 q a1 a2 a3 a4 a5).trans (y5 q a1 a2 a3 a4 a5)))
    · have j53 : p = R := (nI_eq (a := p) (b := R) (by omega) (by omega)).mp j53
      refine xx_aload_n dX9_triangle_56 rfl ?_
      refine xx_bipush (v := 28) dX9_triangle_57 (by decide) ?_
      refine xx_lconst (v := 0) dX9_triangle_59 (by decide) ?_
      refine xx_eql (y := lz 0) (by decide) ?_
      refine xx_callV (N := mX9_set) (vs := [.int 28, .long (lz 0)]) (b := b) (rest := []) (d2 := 0) (c2 := 0) (s2 := 0) (c3 := 0) (s3 := 0) dX9_triangle_60 wm_X9_80 wi_X9_set wv_X9_set (k := 9) rfl (by decide) hb2 nX9_set ⟨pX9_set, Nat.le_of_ble_eq_true rfl, by decide, Nat.le_of_ble_eq_true rfl, by decide, by decide⟩ (w_X9_set hb2 y2 (a := 28) (v := 0) (by omega) (by decide) (by decide)) (fun v9 Eq1 hC => ?_) (fun E9 B9 hC => absurd hC.1 (by simp))
      obtain ⟨hv9, zq1, ⟨Nq1, hNq1, vq1, fq1⟩, oq1⟩ := hC
      cases hv9
      refine xx_cst (st2 := []) rfl ?_
      have hbq1 := (oq1 b (by omega) (by omega) (by omega) (by omega) (by omega)).trans hb2
      subst j53
      exact xx_vret dX9_triangle_63 rfl (kZ Eq1 Nq1 (by omega) hNq1 vq1 (yj_no y3 (by omega) hRC hC p3) (fun q a1 a2 a3 a4 a5 => (fq1 q a4).trans (y4 q a1 a2 a3 a4 a5)) (fun q a1 a2 a3 a4 a5 => (oq1 q a1 a2 a3 a4 a5).trans (y5 q a1 a2 a3 a4 a5)))
set_option maxRecDepth 100000 in
theorem c_X9_triangle {G : xx_G} {l : Launch} {A : xx_H} {b : Nat} {th hr st hl en tu : Value} {m n : Nat} {R C : Nat} {N : Nat → Int} {M : Nat → Nat → Int} (hb : A.2 b = xx_o 9 (xx_mf b th (.int (nI m)) (.int (nI n)) hr st hl en tu)) (hR : R ≤ 7) (hC : C ≤ 8) (hRC : R ≤ C) (hM : ∀ c r, (M c r).natAbs ≤ 554344561) (hN : xx_rw A b N) (h1 : 1 ≤ R) (h : ∀ r, r < R → ∀ c, c < C → N (240 + 8 * r + c) = M c r) : xx_X G l mX9_triangle 4 0 0 0 (lv_args 0 [.ref b, .int (nI R), .int (nI C)]) [] A (fun z B => z = .inl none ∧ B.1 = A.1 ∧ (∃ tu2, B.2 b = xx_o 9 (xx_mf b th (.int (nI m)) (.int (nI n)) hr st hl en tu2)) ∧ (∃ N2 s, xx_rw B b N2 ∧ (s = 1 ∨ s = -1) ∧ N2 28 = yj_D R M ∧ (yj_D R M ≠ 0 → N2 (240 + 8 * (R - 1) + (R - 1)) = s * yj_D R M ∧ ∀ r, r < R → yj_r R C M r N2) ∧ (∀ q, 5 ≤ q → q ≠ 13 → q ≠ 19 → q ≠ 28 → (q < 240 ∨ 296 ≤ q) → N2 q = N q)) ∧ ∀ q, q ≠ b → q ≠ b + 1 → q ≠ b + 2 → q ≠ b + 3 → q ≠ b + 17 → q ≠ b + 18 → B.2 q = A.2 q) := by
  refine xx_clv (lv2 := [(0, .ref b), (1, .int (nI R)), (2, .int (nI C))]) rfl ?_
  refine xx_aload_n dX9_triangle_0 rfl ?_
  refine xx_bipush (v := 28) dX9_triangle_1 (by decide) ?_
  refine xx_lconst (v := 1) dX9_triangle_3 (by decide) ?_
  refine xx_eql (y := lz 1) (by decide) ?_
  refine xx_callV (N := mX9_set) (vs := [.int 28, .long (lz 1)]) (b := b) (rest := []) (d2 := 0) (c2 := 0) (s2 := 0) (c3 := 0) (s3 := 0) dX9_triangle_4 wm_X9_80 wi_X9_set wv_X9_set (k := 9) rfl (by decide) hb nX9_set ⟨pX9_set, Nat.le_of_ble_eq_true rfl, by decide, Nat.le_of_ble_eq_true rfl, by decide, by decide⟩ (w_X9_set hb hN (a := 28) (v := 1) (by omega) (by decide) (by decide)) (fun v9 Eq1 hC => ?_) (fun E9 B9 hC => absurd hC.1 (by simp))
  obtain ⟨hv9, zq1, ⟨Nq1, hNq1, vq1, fq1⟩, oq1⟩ := hC
  cases hv9
  refine xx_cst (st2 := []) rfl ?_
  have hbq1 := (oq1 b (by omega) (by omega) (by omega) (by omega) (by omega)).trans hb
  refine xx_iconst (v := 1) dX9_triangle_7 (by decide) ?_
  refine xx_istore_n dX9_triangle_8 (by decide) ?_
  refine xx_clv (lv2 := [(0, .ref b), (1, .int (nI R)), (2, .int (nI C)), (3, .int 1)]) rfl ?_
  refine xx_iconst (v := 0) dX9_triangle_9 (by decide) ?_
  refine xx_istore dX9_triangle_10 (by decide) ?_
  refine xx_clv (lv2 := [(0, .ref b), (1, .int (nI R)), (2, .int (nI C)), (3, .int 1), (4, .int 0)]) rfl ?_
  refine xx_clv (lv2 := [(0, .ref b), (1, .int (nI R)), (2, .int (nI C)), (3, .int (iz 1)), (4, .int (nI 0))]) rfl ?_
  refine l_X9_tk (A := Eq1) (N := Nq1) (M := M) hbq1 hR hC hRC hM (fun B N2 w1 w2 w3 w4 w5 w6 => ⟨rfl, by omega, ⟨tu, (w6 b (by omega) (by omega) (by omega) (by omega) (by omega)).trans hbq1⟩, ⟨N2, 1, w2, Or.inl rfl, w3.trans w4.symm, fun q => absurd w4 q, fun q a1 a2 a3 a4 a5 => (w5 q a1 a2 a3 a4 a5).trans (fq1 q a4)⟩, fun q a0 a1 a2 a3 a4 a5 => (w6 q a1 a2 a3 a4 a5).trans (oq1 q a1 a2 a3 a4 a5)⟩) (fun B N2 bs s y1 y2 y3 y6 y4 y5 => ?_) R 0 (by omega) Eq1 Nq1 (fun i => 8 + i) 1 rfl hNq1 (yj_0 hC (fun r hr c hc => (fq1 _ (by omega)).trans (h r hr c hc)) vq1) (Or.inl rfl) (fun q _ _ _ _ _ => rfl) (fun q _ _ _ _ _ => rfl)
  have hb2 := (y5 b (by omega) (by omega) (by omega) (by omega) (by omega)).trans hbq1
  obtain ⟨en1, en2, en3⟩ := yj_end y3 hRC hC
  obtain ⟨h9, s1, s2, s3⟩ := y2.sn
  have sq := y3.1
  have y6 := y6.resolve_left (by omega)
  refine xx_aload_n dX9_triangle_247 rfl ?_
  refine xx_get xx_c9 dX9_triangle_248 wf_X9_17 (j := 3) (by decide) hb2 rfl ?_
  refine xx_bipush (v := 28) dX9_triangle_251 (by decide) ?_
  refine xx_dup2_11 dX9_triangle_253 rfl rfl ?_
  refine xx_iald dX9_triangle_254 s1 (by unfold vp_in; decide) ?_
  refine xx_eqi (y := iz (N2 28).sign) (s2 28 (by decide)) ?_
  refine xx_iload_n dX9_triangle_255 rfl ?_
  refine xx_imul dX9_triangle_256 ?_
  refine xx_eqi (y := iz (s * N2 28).sign) (yj_sm sq) ?_
  refine xx_iast dX9_triangle_257 s1 (by unfold vp_in; decide) (xx_gu fun Eq2 z2 h2 o2 => ?_)
  have h2 : Eq2.2 (b + 3) = xx_i 1740 (upd h9 28 (iz (s * N2 28).sign)) := h2
  have n2 := s3 Eq2 (s * N2 28) 28 (by decide) (yj_sa sq) h2 (fun q hq => o2 q hq)
  have hb3 := (o2 b (by omega)).trans hb2
  refine xx_aload_n dX9_triangle_258 rfl ?_
  refine xx_iload_n dX9_triangle_259 rfl ?_
  refine xx_put xx_c9 dX9_triangle_260 wf_X9_202 (j := 27) (by decide) rfl rfl rfl hb3 (Nat.le_of_ble_eq_true rfl) (xx_gu fun Eq3 z3 h3 o3 => ?_)
  have h3 : Eq3.2 b = xx_o 9 (xx_mf b th (.int (nI m)) (.int (nI n)) hr st hl en (.int (iz s))) := h3
  have n3 : xx_rw Eq3 b (yy_un N2 28 (s * N2 28)) := n2.to (o3 _ (by omega)) (o3 _ (by omega)) (o3 _ (by omega)) (o3 _ (by omega)) (o3 _ (by omega))
  have e28 : s * N2 28 = yj_D R M := by rw [en1, ← Int.mul_assoc, yj_s2 sq, Int.one_mul]
  refine xx_vret dX9_triangle_263 rfl ⟨rfl, by omega, ⟨_, h3⟩, ⟨_, s, n3, sq, yy_un_s.trans e28, fun _ => ⟨?_, fun r hr => ?_⟩, fun q a1 a2 a3 a4 a5 => (yy_un_n a4).trans ((y4 q a1 a2 a3 a4 a5).trans (fq1 q a4))⟩, fun q a0 a1 a2 a3 a4 a5 => (o3 q a0).trans ((o2 q a3).trans ((y5 q a1 a2 a3 a4 a5).trans (oq1 q a1 a2 a3 a4 a5)))⟩
  · rw [yy_un_n (by omega), y6]; exact en1
  · obtain ⟨b2, t2, q1, q2, q3, q4⟩ := en3 r hr
    exact ⟨b2, t2, q1, q2, fun c c1 c2 => by rw [yy_un_n (by omega)]; exact q3 c c1 c2, q4⟩
