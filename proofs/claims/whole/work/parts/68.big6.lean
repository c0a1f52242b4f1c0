/-! ===== Big: setProduct, setProductBy ===== -/
theorem yy_sgm (u v : Int) : iz u.sign * iz v.sign = iz (u * v).sign := by rw [iz_mul, Int.sign_mul]
theorem yy_min_le (a b : Nat) : yy_min a b ≤ a ∧ yy_min a b ≤ b ∧ (yy_min a b = a ∨ yy_min a b = b) := by unfold yy_min; split <;> omega
theorem yy_val_mono {β : Nat} {D : Nat → Nat} {n m : Nat} (h : n ≤ m) : yy_val β D n ≤ yy_val β D m := yy_val_le h
set_option maxRecDepth 100000 in
theorem l_X0_sp {G : xx_G} {l : Launch} {A : xx_H} {b x y lx ly N : Nat} {s0 s1 s2 s3 : Value} {g h : Nat → Int32} {X Y : Nat → Nat} {Q : Option Value ⊕ String → xx_H → Prop} (hx : A.2 x = xx_o 0 [s1, .int (nI lx), .ref (x + 1)]) (hg : A.2 (x + 1) = xx_i 14 g) (hy : A.2 y = xx_o 0 [s3, .int (nI ly), .ref (y + 1)]) (hh : A.2 (y + 1) = xx_i 14 h) (n1 : x ≠ b) (n2 : x ≠ b + 1) (n3 : x + 1 ≠ b) (n4 : y ≠ b) (n5 : y ≠ b + 1) (n6 : y + 1 ≠ b) (hlx : lx ≤ 14) (hly : ly ≤ 14) (hX : ∀ i, i < lx → X i < yB ∧ g i = nI (X i)) (hY : ∀ i, i < ly → Y i < yB ∧ h i = nI (Y i)) (hxy : lx + ly ≤ 15) (hbd : yy_val yB X lx * yy_val yB Y ly < yB ^ 14) (hN : N = yy_min 14 (lx + ly)) (k : ∀ (B : xx_H) (f1 : Nat → Int32) (D1 : Nat → Nat), B.1 = A.1 → B.2 b = xx_o 0 [s0, s2, .ref (b + 1)] → B.2 (b + 1) = xx_i 14 f1 → (∀ j, j < yy_min 14 (lx + ly) → D1 j < yB ∧ f1 j = nI (D1 j)) → (∀ j, lx + ly ≤ j → j < N → f1 j = 0) → yy_val yB D1 (yy_min 14 (lx + ly)) = yy_val yB X lx * yy_val yB Y ly → (∀ q, q ≠ b → q ≠ b + 1 → B.2 q = A.2 q) → xx_X G l mX0_setProduct 2 0 0 58 [(0, .ref b), (1, .ref x), (2, .ref y), (3, .int (nI N))] [] B Q) :
    ∀ (r i : Nat), i + r = lx → ∀ (B : xx_H) (f1 : Nat → Int32) (D1 : Nat → Nat), B.1 = A.1 → B.2 b = xx_o 0 [s0, s2, .ref (b + 1)] → B.2 (b + 1) = xx_i 14 f1 → (∀ j, j < yy_min 14 (i + ly) → D1 j < yB ∧ f1 j = nI (D1 j)) → (∀ j, i + ly ≤ j → j < N → f1 j = 0) → yy_val yB D1 (yy_min 14 (i + ly)) = yy_val yB X i * yy_val yB Y ly → (∀ q, q ≠ b → q ≠ b + 1 → B.2 q = A.2 q) → xx_X G l mX0_setProduct 2 0 0 28 [(0, .ref b), (1, .ref x), (2, .ref y), (3, .int (nI N)), (4, .int (nI i))] [] B Q := by
  intro r
  induction r with
  | zero =>
    intro i hi B f1 D1 hz hb hf1 hd ho hv hfr
    have : i = lx := by omega
    subst this
    have hx2 := (hfr x n1 n2).trans hx
    refine xx_iload dX0_setProduct_28 rfl ?_
    refine xx_aload_n dX0_setProduct_30 rfl ?_
    refine xx_get xx_c0 dX0_setProduct_31 wf_X0_13 (j := 1) (by decide) hx2 rfl ?_
    refine xx_icmp_ge (tgt := 58) dX0_setProduct_34 (by decide) (fun j34 => ?_) (fun h => absurd (Int32.le_refl _) h)
    refine xx_less [0, 1, 2, 3] ?_
    refine xx_clv (lv2 := [(0, .ref b), (1, .ref x), (2, .ref y), (3, .int (nI N))]) rfl ?_
    exact k B f1 D1 hz hb hf1 hd ho hv hfr
  | succ r ih =>
    intro i hi B f1 D1 hz hb hf1 hd ho hv hfr
    have hx2 := (hfr x n1 n2).trans hx
    have hg2 := (hfr (x + 1) n3 (by omega)).trans hg
    have hy2 := (hfr y n4 n5).trans hy
    have hh2 := (hfr (y + 1) n6 (by omega)).trans hh
    obtain ⟨p1, q1⟩ := hX i (by omega)
    have p1' : X i < 2147483648 := p1
    have em : yy_min 14 (i + ly) = i + ly := by unfold yy_min; split <;> omega
    rw [em] at hd hv
    refine xx_iload dX0_setProduct_28 rfl ?_
    refine xx_aload_n dX0_setProduct_30 rfl ?_
    refine xx_get xx_c0 dX0_setProduct_31 wf_X0_13 (j := 1) (by decide) hx2 rfl ?_
    refine xx_icmp_ge (tgt := 58) dX0_setProduct_34 (by decide) (fun h => absurd h (nI_ge (by omega) (by omega))) (fun j34 => ?_)
    refine xx_aload_n dX0_setProduct_37 rfl ?_
    refine xx_aload_n dX0_setProduct_38 rfl ?_
    refine xx_aload_n dX0_setProduct_39 rfl ?_
    refine xx_get xx_c0 dX0_setProduct_40 wf_X0_16 (j := 2) (by decide) hx2 rfl ?_
    refine xx_iload dX0_setProduct_43 rfl ?_
    refine xx_iald dX0_setProduct_45 hg2 (vp_in_nI (by omega) (by decide)) ?_
    refine xx_eqi (y := nI (X i)) (by rw [nI_clamp (by omega)]; exact q1) ?_
    refine xx_i2l dX0_setProduct_46 ?_
    refine xx_eql (y := lN (X i)) (nI_l (by omega)) ?_
    refine xx_iload dX0_setProduct_47 rfl ?_
    refine xx_callV (N := mX0_addTimes) (vs := [.ref y, .long (lN (X i)), .int (nI i)]) (b := b) (rest := []) (d2 := 1) (c2 := 0) (s2 := 0) (c3 := 0) (s3 := 0) dX0_setProduct_49 wm_X0_44 wi_X0_addTimes wv_X0_addTimes (k := 0) rfl (by decide) hb nX0_addTimes ⟨pX0_addTimes, Nat.le_of_ble_eq_true rfl, by decide, Nat.le_of_ble_eq_true rfl, by decide, by decide⟩ (c_X0_addTimes hb hf1 hy2 hh2 n4 n5 n6 hly hY (by omega) hd p1) (fun v2 C hC => ?_) (fun E C hC => absurd hC.1 (by simp))
    obtain ⟨hv2, y1, y2, ⟨f2, D2, c, y3, y0, y4, y5, y6, y7⟩, y8⟩ := hC
    cases hv2
    refine xx_cst (st2 := []) rfl ?_
    refine xx_iinc (v := nI (i + 1)) dX0_setProduct_52 rfl (nI_1 i) (by decide) ?_
    refine xx_goto (tgt := 28) dX0_setProduct_55 (by decide) ?_
    refine xx_clv (lv2 := [(0, .ref b), (1, .ref x), (2, .ref y), (3, .int (nI N)), (4, .int (nI (i + 1)))]) rfl ?_
    have hprod : yy_val yB D1 (i + ly) + X i * yy_val yB Y ly * yB ^ i = yy_val yB X (i + 1) * yy_val yB Y ly := by
      show _ = (yy_val yB X i + X i * yB ^ i) * yy_val yB Y ly
      rw [hv, Nat.add_mul]
      generalize yB ^ i = P; grind
    have hfr2 : ∀ q, q ≠ b → q ≠ b + 1 → C.2 q = A.2 q := fun q h1 h2 => (y8 q h2).trans (hfr q h1 h2)
    by_cases h14 : i + ly < 14
    · have em2 : yy_min 14 (i + 1 + ly) = i + ly + 1 := by unfold yy_min; split <;> omega
      refine ih (i + 1) (by omega) C f2 (fun j => if j = i + ly then c else D2 j) (by omega) y2 y3 (fun j hj => ?_) (fun j h1 h2 => ?_) ?_ hfr2
      · rw [em2] at hj
        by_cases e : j = i + ly
        · rw [if_pos e, e]; exact ⟨y0, y5 h14⟩
        · rw [if_neg e]; exact y6 j (by omega)
      · rw [y4 j (by omega)]; exact ho j (by omega) h2
      · rw [em2, yy_upd_eq, y7, hprod]
    · have em2 : yy_min 14 (i + 1 + ly) = i + ly := by unfold yy_min; split <;> omega
      have hle : yy_val yB X (i + 1) * yy_val yB Y ly ≤ yy_val yB X lx * yy_val yB Y ly := Nat.mul_le_mul_right _ (yy_val_le (by omega))
      have e14 : i + ly = 14 := by omega
      have c0 : c = 0 := by
        apply Nat.eq_zero_of_not_pos
        intro q
        have : 1 * yB ^ (i + ly) ≤ c * yB ^ (i + ly) := Nat.mul_le_mul_right _ q
        rw [hprod, e14] at y7
        rw [e14] at this
        omega
      refine ih (i + 1) (by omega) C f2 D2 (by omega) y2 y3 (fun j hj => y6 j (by omega)) (fun j h1 h2 => ?_) ?_ hfr2
      · rw [y4 j (by omega)]; exact ho j (by omega) h2
      · rw [em2, ← hprod, ← y7, c0]; omega
set_option maxRecDepth 100000 in
theorem c_X0_setProduct {G : xx_G} {l : Launch} {A : xx_H} {b x y : Nat} {t u v : Int} (hb : xx_bg A b t) (hx : xx_bg A x u) (hy : xx_bg A y v) (n1 : x ≠ b) (n2 : x ≠ b + 1) (n3 : x + 1 ≠ b) (n4 : y ≠ b) (n5 : y ≠ b + 1) (n6 : y + 1 ≠ b) (hbd : u.natAbs * v.natAbs < yB ^ 14) : xx_X G l mX0_setProduct 2 0 0 0 (lv_args 0 [.ref b, .ref x, .ref y]) [] A (fun r B => r = .inl none ∧ B.1 = A.1 ∧ xx_bg B b (u * v) ∧ ∀ q, q ≠ b → q ≠ b + 1 → B.2 q = A.2 q) := by
  obtain ⟨f, len, hb, hf, g3⟩ := hb
  obtain ⟨g, lx, hx, hg, k3⟩ := hx
  obtain ⟨h, ly, hy, hh, m3⟩ := hy
  have hxy : lx + ly ≤ 15 := by
    by_cases e1 : lx = 0
    · have := m3.1; omega
    by_cases e2 : ly = 0
    · have := k3.1; omega
    have c1 : lx = (lx - 1) + 1 := by omega
    have c2 : ly = (ly - 1) + 1 := by omega
    have k4 := k3
    have m4 := m3
    rw [c1] at k4
    rw [c2] at m4
    have b1 := Nat.mul_le_mul k4.ge m4.ge
    rw [← Nat.pow_add] at b1
    apply Nat.le_of_not_lt
    intro q
    have b2 : yB ^ 14 ≤ yB ^ (lx - 1 + (ly - 1)) := Nat.pow_le_pow_right (by decide) (by omega)
    omega
  obtain ⟨hlx, X, hX, dX, eX⟩ := k3
  obtain ⟨hly, Y, hY, dY, eY⟩ := m3
  have hN := yy_min_le 14 (lx + ly)
  have hNly : ly ≤ yy_min 14 (lx + ly) := by omega
  rw [eX, eY] at hbd
  refine xx_clv (lv2 := [(0, .ref b), (1, .ref x), (2, .ref y)]) rfl ?_
  refine xx_bipush (v := 14) dX0_setProduct_0 (by decide) ?_
  refine xx_aload_n dX0_setProduct_2 rfl ?_
  refine xx_get xx_c0 dX0_setProduct_3 wf_X0_13 (j := 1) (by decide) hx rfl ?_
  refine xx_aload_n dX0_setProduct_6 rfl ?_
  refine xx_get xx_c0 dX0_setProduct_7 wf_X0_13 (j := 1) (by decide) hy rfl ?_
  refine xx_iadd dX0_setProduct_10 ?_
  refine xx_eqi (y := nI (lx + ly)) (nI_add lx ly) ?_
  refine xx_mmin dX0_setProduct_11 xx_mth0min (by decide) (Nat.le_of_ble_eq_true rfl) ?_
  refine xx_eqi (y := nI (yy_min 14 (lx + ly))) (nI_min (a := 14) (by omega) (by omega)) ?_
  refine xx_istore_n dX0_setProduct_14 (by decide) ?_
  refine xx_clv (lv2 := [(0, .ref b), (1, .ref x), (2, .ref y), (3, .int (nI (yy_min 14 (lx + ly))))]) rfl ?_
  refine xx_aload_n dX0_setProduct_15 rfl ?_
  refine xx_get xx_c0 dX0_setProduct_16 wf_X0_16 (j := 2) (by decide) hb rfl ?_
  refine xx_iconst (v := 0) dX0_setProduct_19 (by decide) ?_
  refine xx_iload_n dX0_setProduct_20 rfl ?_
  refine xx_iconst (v := 0) dX0_setProduct_21 (by decide) ?_
  refine xx_callS (N := mJ7_fillr) (vs := [.ref (b + 1), .int (nI 0), .int (nI (yy_min 14 (lx + ly))), .int 0]) (rest := []) (d2 := 1) (c2 := 0) (s2 := 0) (c3 := 0) (s3 := 0) dX0_setProduct_22 wm_X0_38 ws_J7_fillr wz_J7 (by decide) nJ7_fillr ⟨pJ7_fillr, Nat.le_of_ble_eq_true rfl, by decide, Nat.le_of_ble_eq_true rfl, by decide, by decide⟩ (c_J7_fillr (by decide) (Nat.zero_le _) (by omega) hf) (fun v2 B hC => ?_) (fun E B hC => absurd hC.1 (by simp))
  obtain ⟨hv2, y1, ⟨f0, y2, y3, y4⟩, y5⟩ := hC
  cases hv2
  refine xx_cst (st2 := []) rfl ?_
  refine xx_iconst (v := 0) dX0_setProduct_25 (by decide) ?_
  refine xx_istore dX0_setProduct_26 (by decide) ?_
  refine xx_clv (lv2 := [(0, .ref b), (1, .ref x), (2, .ref y), (3, .int (nI (yy_min 14 (lx + ly)))), (4, .int 0)]) rfl ?_
  refine xx_clv (lv2 := [(0, .ref b), (1, .ref x), (2, .ref y), (3, .int (nI (yy_min 14 (lx + ly)))), (4, .int (nI 0))]) rfl ?_
  have e0 : yy_min 14 (0 + ly) = ly := by unfold yy_min; split <;> omega
  refine l_X0_sp (A := A) hx hg hy hh n1 n2 n3 n4 n5 n6 hlx hly hX hY hxy hbd rfl (fun C f1 D1 z1 z2 z3 z4 z5 z6 z7 => ?_) lx 0 (by omega) B f0 (fun _ => 0) (by omega) ((y5 b (by omega)).trans hb) y2 (fun j hj => ⟨by decide, y3 j (Nat.zero_le j) (by omega)⟩) (fun j h1 h2 => y3 j (Nat.zero_le j) h2) ?_ (fun q _ h2 => y5 q h2)
  rotate_left
  · rw [e0]; show yy_val yB (fun _ => 0) ly = 0 * _; rw [Nat.zero_mul, yy_val_z (n := 0) (Nat.zero_le _) (fun i _ _ => rfl)]; rfl
  have hx3 := (z7 x n1 n2).trans hx
  have hy3 := (z7 y n4 n5).trans hy
  refine xx_aload_n dX0_setProduct_58 rfl ?_
  refine xx_iload_n dX0_setProduct_59 rfl ?_
  refine xx_aload_n dX0_setProduct_60 rfl ?_
  refine xx_get xx_c0 dX0_setProduct_61 wf_X0_7 (j := 0) (by decide) hx3 rfl ?_
  refine xx_aload_n dX0_setProduct_64 rfl ?_
  refine xx_get xx_c0 dX0_setProduct_65 wf_X0_7 (j := 0) (by decide) hy3 rfl ?_
  refine xx_imul dX0_setProduct_68 ?_
  refine xx_eqi (y := iz (u * v).sign) (yy_sgm u v) ?_
  refine xx_callV (N := mX0_trim) (vs := [.int (nI (yy_min 14 (lx + ly))), .int (iz (u * v).sign)]) (b := b) (rest := []) (d2 := 0) (c2 := 0) (s2 := 0) (c3 := 0) (s3 := 0) dX0_setProduct_69 wm_X0_28 wi_X0_trim wv_X0_trim (k := 0) rfl (by decide) z2 nX0_trim ⟨pX0_trim, Nat.le_of_ble_eq_true rfl, by decide, Nat.le_of_ble_eq_true rfl, by decide, by decide⟩ (c_trim z2 z3 hN.1 z4 (by rw [z6, Int.natAbs_mul, eX, eY]) (fun _ => rfl)) (fun v2 C2 hC => ?_) (fun E C2 hC => absurd hC.1 (by simp))
  obtain ⟨hv2, x1, x2, x3⟩ := hC
  cases hv2
  refine xx_cst (st2 := []) rfl ?_
  exact xx_vret dX0_setProduct_72 rfl ⟨rfl, by omega, x2, fun q h1 h2 => (x3 q h1).trans (z7 q h1 h2)⟩
set_option maxRecDepth 100000 in
theorem c_X0_setProductBy {G : xx_G} {l : Launch} {A : xx_H} {b x : Nat} {t u : Int} {k : Int32} (hb : xx_bg A b t) (hx : xx_bg A x u) (n1 : x ≠ b) (n2 : x ≠ b + 1) (n3 : x + 1 ≠ b) (hk : k.toInt.natAbs < yB) (hbd : u.natAbs < yB ^ 13) : xx_X G l mX0_setProductBy 2 0 0 0 (lv_args 0 [.ref b, .ref x, .int k]) [] A (fun r B => r = .inl none ∧ B.1 = A.1 ∧ xx_bg B b (u * k.toInt) ∧ ∀ q, q ≠ b → q ≠ b + 1 → B.2 q = A.2 q) := by
  obtain ⟨f, len, hb, hf, g3⟩ := hb
  obtain ⟨g, lx, hx, hg, k3⟩ := hx
  have hlx13 : lx ≤ 13 := by
    apply Nat.le_of_not_lt
    intro q
    have c1 : lx = (lx - 1) + 1 := by omega
    have k4 := k3
    rw [c1] at k4
    have b1 := k4.ge
    have b2 : yB ^ 13 ≤ yB ^ (lx - 1) := Nat.pow_le_pow_right (by decide) (by omega)
    omega
  obtain ⟨hlx, X, hX, dX, eX⟩ := k3
  have hk2 : k.toInt.natAbs < 2147483648 := hk
  have habs : (if (0 : Int64) ≤ k.toInt64 then k.toInt64 else -k.toInt64) = lN k.toInt.natAbs := by
    have e1 : k.toInt64 = lz k.toInt := by rw [← Int32.toInt_toInt64, ← lz_of]
    rw [e1]
    by_cases q : 0 ≤ k.toInt
    · rw [if_pos (by rw [Int64.le_iff_toInt_le, lz_toInt (by omega) (by omega)]; exact q), lN_lz]
      congr 1
      omega
    · rw [if_neg (by rw [Int64.le_iff_toInt_le, lz_toInt (by omega) (by omega)]; exact q), lN_lz]
      show -Int64.ofInt _ = _
      rw [← Int64.ofInt_neg]
      congr 1
      omega
  refine xx_clv (lv2 := [(0, .ref b), (1, .ref x), (2, .int k)]) rfl ?_
  refine xx_bipush (v := 14) dX0_setProductBy_0 (by decide) ?_
  refine xx_aload_n dX0_setProductBy_2 rfl ?_
  refine xx_get xx_c0 dX0_setProductBy_3 wf_X0_13 (j := 1) (by decide) hx rfl ?_
  refine xx_iconst (v := 1) dX0_setProductBy_6 (by decide) ?_
  refine xx_iadd dX0_setProductBy_7 ?_
  refine xx_eqi (y := nI (lx + 1)) (nI_1 lx) ?_
  refine xx_mmin dX0_setProductBy_8 xx_mth0min (by decide) (Nat.le_of_ble_eq_true rfl) ?_
  refine xx_eqi (y := nI (lx + 1)) (by rw [show (14 : Int32) = nI 14 from rfl, nI_min (a := 14) (by omega) (by omega)]; congr 1; unfold yy_min; split <;> omega) ?_
  refine xx_istore_n dX0_setProductBy_11 (by decide) ?_
  refine xx_clv (lv2 := [(0, .ref b), (1, .ref x), (2, .int k), (3, .int (nI (lx + 1)))]) rfl ?_
  refine xx_aload_n dX0_setProductBy_12 rfl ?_
  refine xx_get xx_c0 dX0_setProductBy_13 wf_X0_16 (j := 2) (by decide) hb rfl ?_
  refine xx_iconst (v := 0) dX0_setProductBy_16 (by decide) ?_
  refine xx_iload_n dX0_setProductBy_17 rfl ?_
  refine xx_iconst (v := 0) dX0_setProductBy_18 (by decide) ?_
  refine xx_callS (N := mJ7_fillr) (vs := [.ref (b + 1), .int (nI 0), .int (nI (lx + 1)), .int 0]) (rest := []) (d2 := 1) (c2 := 0) (s2 := 0) (c3 := 0) (s3 := 0) dX0_setProductBy_19 wm_X0_38 ws_J7_fillr wz_J7 (by decide) nJ7_fillr ⟨pJ7_fillr, Nat.le_of_ble_eq_true rfl, by decide, Nat.le_of_ble_eq_true rfl, by decide, by decide⟩ (c_J7_fillr (by decide) (Nat.zero_le _) (by omega) hf) (fun v2 B hC => ?_) (fun E B hC => absurd hC.1 (by simp))
  obtain ⟨hv2, y1, ⟨f0, y2, y3, y4⟩, y5⟩ := hC
  cases hv2
  refine xx_cst (st2 := []) rfl ?_
  have hb3 := (y5 b (by omega)).trans hb
  have hx3 := (y5 x n2).trans hx
  have hg3 := (y5 (x + 1) (by omega)).trans hg
  refine xx_aload_n dX0_setProductBy_22 rfl ?_
  refine xx_aload_n dX0_setProductBy_23 rfl ?_
  refine xx_iload_n dX0_setProductBy_24 rfl ?_
  refine xx_i2l dX0_setProductBy_25 ?_
  refine xx_callS (N := mJ9_abs) (vs := [.long k.toInt64]) (rest := [.ref x, .ref b]) (d2 := 0) (c2 := 0) (s2 := 0) (c3 := 0) (s3 := 0) dX0_setProductBy_26 wm_X0_48 ws_J9_abs wz_J9 (by decide) nJ9_abs ⟨pJ9_abs, Nat.le_of_ble_eq_true rfl, by decide, Nat.le_of_ble_eq_true rfl, by decide, by decide⟩ c_J9_abs (fun v2 B2 hC => ?_) (fun E B2 hC => absurd hC.1 (by simp))
  obtain ⟨hv2, rfl⟩ := hC
  cases hv2
  refine xx_cst (st2 := [.long (lN k.toInt.natAbs), .ref x, .ref b]) (by rw [habs]; rfl) ?_
  refine xx_iconst (v := 0) dX0_setProductBy_29 (by decide) ?_
  refine xx_cst (st2 := [.int (nI 0), .long (lN k.toInt.natAbs), .ref x, .ref b]) rfl ?_
  refine xx_callV (N := mX0_addTimes) (vs := [.ref x, .long (lN k.toInt.natAbs), .int (nI 0)]) (b := b) (rest := []) (d2 := 1) (c2 := 0) (s2 := 0) (c3 := 0) (s3 := 0) dX0_setProductBy_30 wm_X0_44 wi_X0_addTimes wv_X0_addTimes (k := 0) rfl (by decide) hb3 nX0_addTimes ⟨pX0_addTimes, Nat.le_of_ble_eq_true rfl, by decide, Nat.le_of_ble_eq_true rfl, by decide, by decide⟩ (c_X0_addTimes (D := fun _ => 0) hb3 y2 hx3 hg3 n1 n2 n3 hlx hX (by omega) (fun j hj => ⟨by decide, y3 j (Nat.zero_le j) (by omega)⟩) hk) (fun v2 C hC => ?_) (fun E C hC => absurd hC.1 (by simp))
  obtain ⟨hv2, z1, z2, ⟨f2, D2, c, z3, z0, z4, z5, z6, z7⟩, z8⟩ := hC
  cases hv2
  refine xx_cst (st2 := []) rfl ?_
  have hx4 := (z8 x n2).trans hx3
  rw [Nat.zero_add] at z7 z5 z6 z4
  have hval : yy_val yB (fun j => if j = lx then c else D2 j) (lx + 1) = k.toInt.natAbs * u.natAbs := by
    rw [yy_upd_eq, z7, eX, yy_val_z (n := 0) (Nat.zero_le _) (fun i _ _ => rfl)]
    show 0 + _ * 1 = _
    omega
  have hdig : ∀ j, j < lx + 1 → (fun j => if j = lx then c else D2 j) j < yB ∧ f2 j = nI ((fun j => if j = lx then c else D2 j) j) := by
    intro j hj
    by_cases e : j = lx
    · subst e; simp only [if_true]; exact ⟨z0, z5 (by omega)⟩
    · simp only [e, if_false]; exact z6 j (by omega)
  refine xx_aload_n dX0_setProductBy_33 rfl ?_
  refine xx_iload_n dX0_setProductBy_34 rfl ?_
  refine xx_iload_n dX0_setProductBy_35 rfl ?_
  refine xx_if_ge (tgt := 47) dX0_setProductBy_36 (by decide) (fun j36 => ?_) (fun j36 => ?_)
  · refine xx_aload_n dX0_setProductBy_47 rfl ?_
    refine xx_get xx_c0 dX0_setProductBy_48 wf_X0_7 (j := 0) (by decide) hx4 rfl ?_
    refine xx_cst (st2 := [.int (iz u.sign), .int (nI (lx + 1)), .ref b]) rfl ?_
    have hway : u * k.toInt ≠ 0 → (iz u.sign) = iz (u * k.toInt).sign := by
      intro h0
      have hk0 : 0 ≤ k.toInt := Int32.le_iff_toInt_le.mp j36
      have hk1 : k.toInt ≠ 0 := fun q => h0 (by rw [q, Int.mul_zero])
      rw [Int.sign_mul, Int.sign_eq_one_of_pos (show 0 < k.toInt by omega), Int.mul_one]
    refine xx_callV (N := mX0_trim) (vs := [.int (nI (lx + 1)), .int (iz u.sign)]) (b := b) (rest := []) (d2 := 0) (c2 := 0) (s2 := 0) (c3 := 0) (s3 := 0) dX0_setProductBy_51 wm_X0_28 wi_X0_trim wv_X0_trim (k := 0) rfl (by decide) z2 nX0_trim ⟨pX0_trim, Nat.le_of_ble_eq_true rfl, by decide, Nat.le_of_ble_eq_true rfl, by decide, by decide⟩ (c_trim z2 z3 (by omega) hdig (by rw [hval, Int.natAbs_mul, Nat.mul_comm]) hway) (fun v2 C2 hC => ?_) (fun E C2 hC => absurd hC.1 (by simp))
    obtain ⟨hv2, x1, x2, x3⟩ := hC
    cases hv2
    refine xx_cst (st2 := []) rfl ?_
    exact xx_vret dX0_setProductBy_54 rfl ⟨rfl, by omega, x2, fun q h1 h2 => (x3 q h1).trans ((z8 q h2).trans (y5 q h2))⟩
  · refine xx_aload_n dX0_setProductBy_39 rfl ?_
    refine xx_get xx_c0 dX0_setProductBy_40 wf_X0_7 (j := 0) (by decide) hx4 rfl ?_
    refine xx_ineg dX0_setProductBy_43 ?_
    refine xx_goto (tgt := 51) dX0_setProductBy_44 (by decide) ?_
    refine xx_cst (st2 := [.int (-iz u.sign), .int (nI (lx + 1)), .ref b]) rfl ?_
    have hway : u * k.toInt ≠ 0 → (-iz u.sign) = iz (u * k.toInt).sign := by
      intro h0
      have hk0 : k.toInt < 0 := Int32.lt_iff_toInt_lt.mp (Int32.not_le.mp j36)
      rw [yy_sg_neg, Int.sign_mul, Int.sign_eq_neg_one_of_neg hk0, Int.mul_neg, Int.mul_one, Int.sign_neg]
    refine xx_callV (N := mX0_trim) (vs := [.int (nI (lx + 1)), .int (-iz u.sign)]) (b := b) (rest := []) (d2 := 0) (c2 := 0) (s2 := 0) (c3 := 0) (s3 := 0) dX0_setProductBy_51 wm_X0_28 wi_X0_trim wv_X0_trim (k := 0) rfl (by decide) z2 nX0_trim ⟨pX0_trim, Nat.le_of_ble_eq_true rfl, by decide, Nat.le_of_ble_eq_true rfl, by decide, by decide⟩ (c_trim z2 z3 (by omega) hdig (by rw [hval, Int.natAbs_mul, Nat.mul_comm]) hway) (fun v2 C2 hC => ?_) (fun E C2 hC => absurd hC.1 (by simp))
    obtain ⟨hv2, x1, x2, x3⟩ := hC
    cases hv2
    refine xx_cst (st2 := []) rfl ?_
    exact xx_vret dX0_setProductBy_54 rfl ⟨rfl, by omega, x2, fun q h1 h2 => (x3 q h1).trans ((z8 q h2).trans (y5 q h2))⟩
