/-! ===== signAt, setToSize ===== -/
theorem nI_or {a c : Nat} (ha : a < 2 ^ 31) (hc : c < 2 ^ 31) : nI a ||| nI c = nI (a ||| c) := by
  apply Int32.toBitVec_inj.mp
  apply BitVec.eq_of_toNat_eq
  have e : ∀ n : Nat, n < 2 ^ 32 → (nI n).toBitVec.toNat = n := fun n hn => by
    show (BitVec.ofNat 32 n).toNat = n
    rw [BitVec.toNat_ofNat, Nat.mod_eq_of_lt hn]
  have lt : a ||| c < 2 ^ 31 := Nat.or_lt_two_pow ha hc
  rw [Int32.toBitVec_or, BitVec.toNat_or, e a (by omega), e c (by omega), e _ (by omega)]
theorem ym_hi {D : Nat → Nat} (hD : ∀ i, i < 6 → D i < yB) : yy_val yB D 6 = yy_val yB D 5 + D 5 * 2 ^ 155 ∧ yy_val yB D 5 < 2 ^ 155 := by
  have e : yB ^ 5 = 2 ^ 155 := by decide +kernel
  refine ⟨by show yy_val yB D 5 + D 5 * yB ^ 5 = _; rw [e], ?_⟩
  rw [← e]
  exact yy_val_lt (fun i hi => hD i (by omega))
/-- the top digit tells the sign -/
theorem ym_neg {D : Nat → Nat} {v : Int} (hD : ∀ i, i < 6 → D i < yB) (e : ((yy_val yB D 6 : Nat) : Int) = v % 2 ^ 186) (hv : v.natAbs < 2 ^ 185) : (v < 0 ↔ 2 ^ 30 ≤ D 5) ∧ (0 ≤ v → ((yy_val yB D 6 : Nat) : Int) = v) ∧ (v < 0 → ((yy_val yB D 6 : Nat) : Int) = v + 2 ^ 186) := by
  obtain ⟨h1, h2⟩ := ym_hi hD
  have p185 : (2 : Nat) ^ 185 = 2 ^ 30 * 2 ^ 155 := by decide +kernel
  have q186 : (2 : Int) ^ 186 = 2 * 2 ^ 185 := by decide +kernel
  have c185 : ((2 ^ 185 : Nat) : Int) = 2 ^ 185 := by decide +kernel
  have n1 : 0 ≤ v → ((yy_val yB D 6 : Nat) : Int) = v := fun z => by
    rw [e]; exact Int.emod_eq_of_lt z (by omega)
  have n2 : v < 0 → ((yy_val yB D 6 : Nat) : Int) = v + 2 ^ 186 := fun z => by
    rw [e, ← Int.add_emod_right, Int.emod_eq_of_lt (by omega) (by omega)]
  refine ⟨⟨fun z => ?_, fun z => ?_⟩, n1, n2⟩
  · have := n2 z
    refine Nat.not_lt.mp (fun q => ?_)
    have h3 : (D 5 + 1) * 2 ^ 155 ≤ 2 ^ 30 * 2 ^ 155 := Nat.mul_le_mul_right _ q
    rw [Nat.add_mul, Nat.one_mul] at h3
    omega
  · refine Int.not_le.mp (fun q => ?_)
    have := n1 q
    have h3 : 2 ^ 30 * 2 ^ 155 ≤ D 5 * 2 ^ 155 := Nat.mul_le_mul_right _ z
    omega
theorem ym_zero {D : Nat → Nat} : ∀ {n : Nat}, (yy_val yB D n = 0 ↔ ∀ j, j < n → D j = 0)
  | 0 => ⟨fun _ j hj => absurd hj (Nat.not_lt_zero j), fun _ => rfl⟩
  | n + 1 => by
    have ih := ym_zero (D := D) (n := n)
    have pb : 0 < yB ^ n := Nat.pow_pos (by decide)
    show yy_val yB D n + D n * yB ^ n = 0 ↔ _
    constructor
    · intro h j hj
      have a1 : yy_val yB D n = 0 := by omega
      have a2 : D n * yB ^ n = 0 := by omega
      by_cases e : j = n
      · rw [e]
        rcases Nat.mul_eq_zero.mp a2 with z | z
        · exact z
        · omega
      · exact ih.mp a1 j (by omega)
    · intro h
      rw [ih.mpr (fun j hj => h j (by omega)), h n (by omega), Nat.zero_mul]
set_option maxRecDepth 100000 in
theorem l_X3_sg {G : xx_G} {l : Launch} {A : xx_H} {x nx s9 : Nat} {f : Nat → Int32} {D : Nat → Nat} {Q : Option Value ⊕ String → xx_H → Prop} (hx : A.2 x = xx_i nx f) (hs : s9 + 6 ≤ nx) (hnx : nx < 2 ^ 31) (hD : ∀ i, i < 6 → D i < yB ∧ f (s9 + i) = nI (D i)) (kC : ∀ (B : xx_H) (w9 : Nat), (B = A) → (w9 < 2147483648) → (w9 = 0 ↔ ∀ j, j < 6 → D j = 0) → xx_X G l mX3_signAt 0 0 0 42 [(2, .int (nI w9))] [] B Q) :
    ∀ (v i : Nat), i + v = 6 → ∀ (B : xx_H) (w9 : Nat), (B = A) → (w9 < 2147483648) → (w9 = 0 ↔ ∀ j, j < i → D j = 0) → xx_X G l mX3_signAt 0 0 0 22 [(0, .ref x), (1, .int (nI s9)), (2, .int (nI w9)), (3, .int (nI i))] [] B Q := by
  intro v
  induction v with
  | zero =>
    intro i h9i B w9 y1 y2 y3
    have h9e : 6 = i := by omega
    subst h9e
    refine xx_clv (lv2 := [(0, .ref x), (1, .int (nI s9)), (2, .int (nI w9)), (3, .int 6)]) rfl ?_
    refine xx_iload_n dX3_signAt_22 rfl ?_
    refine xx_bipush (v := 6) dX3_signAt_23 (by decide) ?_
    refine xx_icmp_ge (tgt := 42) dX3_signAt_25 (by decide) (fun j25 => ?_) (fun h => absurd (by decide) h)
    refine xx_less [2] ?_
    refine xx_clv (lv2 := [(2, .int (nI w9))]) rfl ?_
    exact kC B w9 y1 y2 y3
  | succ v ih =>
    intro i h9i B w9 y1 y2 y3
    rw [y1]
    obtain ⟨d1, d2⟩ := hD i (by omega)
    have d1 : D i < 2147483648 := d1
    refine xx_iload_n dX3_signAt_22 rfl ?_
    refine xx_bipush (v := 6) dX3_signAt_23 (by decide) ?_
    refine xx_icmp_ge (tgt := 42) dX3_signAt_25 (by decide) (fun h => absurd h (nI_ge (a := i) (b := 6) (by omega) (by omega))) (fun j25 => ?_)
    refine xx_iload_n dX3_signAt_28 rfl ?_
    refine xx_aload_n dX3_signAt_29 rfl ?_
    refine xx_iload_n dX3_signAt_30 rfl ?_
    refine xx_iload_n dX3_signAt_31 rfl ?_
    refine xx_iadd dX3_signAt_32 ?_
    refine xx_eqi (y := nI (s9 + i)) (nI_add s9 i) ?_
    refine xx_iald dX3_signAt_33 hx (vp_in_nI (by omega) (by omega)) ?_
    refine xx_eqi (y := nI (D i)) (by rw [nI_clamp (by omega)]; exact d2) ?_
    refine xx_ior dX3_signAt_34 ?_
    refine xx_eqi (y := nI (w9 ||| D i)) (nI_or (by omega) (by omega)) ?_
    refine xx_istore_n dX3_signAt_35 (by decide) ?_
    refine xx_clv (lv2 := [(0, .ref x), (1, .int (nI s9)), (2, .int (nI (w9 ||| D i))), (3, .int (nI i))]) rfl ?_
    refine xx_iinc (v := nI (i + 1)) dX3_signAt_36 rfl (nI_1 i) (by decide) ?_
    refine xx_clv (lv2 := [(0, .ref x), (1, .int (nI s9)), (2, .int (nI (w9 ||| D i))), (3, .int (nI (i + 1)))]) rfl ?_
    refine xx_goto (tgt := 22) dX3_signAt_39 (by decide) ?_
    refine xx_less [0, 1, 2, 3] ?_
    refine xx_clv (lv2 := [(0, .ref x), (1, .int (nI s9)), (2, .int (nI (w9 ||| D i))), (3, .int (nI (i + 1)))]) rfl ?_
    refine ih (i + 1) (by omega) A (w9 ||| D i) rfl (Nat.or_lt_two_pow (n := 31) y2 d1) ?_
    rw [Nat.or_eq_zero_iff, y3]
    constructor
    · rintro ⟨h1, h2⟩ j hj
      by_cases e : j = i
      · rw [e]; exact h2
      · exact h1 j (by omega)
    · intro h; exact ⟨fun j hj => h j (by omega), h i (by omega)⟩
set_option maxRecDepth 100000 in
theorem c_X3_signAt {G : xx_G} {l : Launch} {A : xx_H} {x nx s9 : Nat} {f : Nat → Int32} {v : Int} (hx : A.2 x = xx_i nx f) (hs : s9 + 6 ≤ nx) (hnx : nx < 2 ^ 31) (hf : xx_mh f s9 v) (hv : v.natAbs < 2 ^ 185) : xx_X G l mX3_signAt 0 0 0 0 (lv_args 0 [.ref x, .int (nI s9)]) [] A (fun z B => z = .inl (some (.int (iz v.sign))) ∧ B = A) := by
  obtain ⟨D, hD, eD⟩ := hf
  obtain ⟨g1, g2, g3⟩ := ym_neg (fun i hi => (hD i hi).1) eD hv
  obtain ⟨d1, d2⟩ := hD 5 (by decide)
  have d1 : D 5 < 2147483648 := d1
  have g1 : v < 0 ↔ 1073741824 ≤ D 5 := g1
  clear hv g3
  refine xx_clv (lv2 := [(0, .ref x), (1, .int (nI s9))]) rfl ?_
  refine xx_aload_n dX3_signAt_0 rfl ?_
  refine xx_iload_n dX3_signAt_1 rfl ?_
  refine xx_bipush (v := 6) dX3_signAt_2 (by decide) ?_
  refine xx_iadd dX3_signAt_4 ?_
  refine xx_eqi (y := nI (s9 + 6)) (nI_add s9 6) ?_
  refine xx_iconst (v := 1) dX3_signAt_5 (by decide) ?_
  refine xx_isub dX3_signAt_6 ?_
  refine xx_eqi (y := nI ((s9 + 6) - 1)) (pk_sub (a := s9 + 6) (b := 1) (by omega)) ?_
  refine xx_iald dX3_signAt_7 hx (vp_in_nI (by omega) (by omega)) ?_
  refine xx_eqi (y := nI (D 5)) (by rw [nI_clamp (by omega), show s9 + 6 - 1 = s9 + 5 by omega]; exact d2) ?_
  refine xx_bipush (v := 30) dX3_signAt_8 (by decide) ?_
  refine xx_ishr dX3_signAt_10 ?_
  refine xx_eqi (y := nI ((D 5) / 1073741824)) (pk_shrN (n := (D 5)) (by omega) (30 &&& 31) 30 (by decide)) ?_
  refine xx_iconst (v := 1) dX3_signAt_11 (by decide) ?_
  refine xx_iand dX3_signAt_12 ?_
  refine xx_eqi (y := nI (((D 5) / 1073741824) % 2)) (pk_andN (n := ((D 5) / 1073741824)) (by omega) 1 (by decide)) ?_
  refine xx_if_eq (tgt := 18) dX3_signAt_13 (by decide) (fun j13 => ?_) (fun j13 => ?_)
  · have j13 : ((D 5) / 1073741824) % 2 = 0 := (nI_eq (a := ((D 5) / 1073741824) % 2) (b := 0) (by omega) (by omega)).mp j13
    refine xx_iconst (v := 0) dX3_signAt_18 (by decide) ?_
    refine xx_istore_n dX3_signAt_19 (by decide) ?_
    refine xx_clv (lv2 := [(0, .ref x), (1, .int (nI s9)), (2, .int 0)]) rfl ?_
    refine xx_iconst (v := 0) dX3_signAt_20 (by decide) ?_
    refine xx_istore_n dX3_signAt_21 (by decide) ?_
    refine xx_clv (lv2 := [(0, .ref x), (1, .int (nI s9)), (2, .int 0), (3, .int 0)]) rfl ?_
    have n9 : ¬ v < 0 := fun z => by have := g1.mp z; omega
    refine xx_clv (lv2 := [(0, .ref x), (1, .int (nI s9)), (2, .int (nI 0)), (3, .int (nI 0))]) rfl ?_
    refine l_X3_sg hx hs hnx hD (fun B w9 y1 y2 y3 => ?_) 6 0 (by omega) A 0 rfl (by decide) ⟨fun _ j hj => absurd hj (Nat.not_lt_zero j), fun _ => rfl⟩
    rw [y1]
    rw [← ym_zero] at y3
    have g2 := g2 (Int.not_lt.mp n9)
    refine xx_iload_n dX3_signAt_42 rfl ?_
    refine xx_if_ne (tgt := 50) dX3_signAt_43 (by decide) (fun j43 => ?_) (fun j43 => ?_)
    · have j43 : ¬ w9 = 0 := fun hq9 => j43 ((nI_eq (a := w9) (b := 0) (by omega) (by omega)).mpr hq9)
      refine xx_iconst (v := 1) dX3_signAt_50 (by decide) ?_
      have p9 : 0 < v := by omega
      exact xx_iret dX3_signAt_51 rfl ⟨by rw [Int.sign_eq_one_of_pos p9]; rfl, rfl⟩
    · have j43 : w9 = 0 := (nI_eq (a := w9) (b := 0) (by omega) (by omega)).mp j43
      refine xx_iconst (v := 0) dX3_signAt_46 (by decide) ?_
      refine xx_goto (tgt := 51) dX3_signAt_47 (by decide) ?_
      have p9 : v = 0 := by omega
      exact xx_iret dX3_signAt_51 rfl ⟨by rw [p9]; rfl, rfl⟩
  · have j13 : ¬ ((D 5) / 1073741824) % 2 = 0 := fun hq9 => j13 ((nI_eq (a := ((D 5) / 1073741824) % 2) (b := 0) (by omega) (by omega)).mpr hq9)
    refine xx_iconst (v := (-1)) dX3_signAt_16 (by decide) ?_
    have n9 : v < 0 := g1.mpr (by omega)
    exact xx_iret dX3_signAt_17 rfl ⟨by rw [Int.sign_eq_neg_one_of_neg n9]; rfl, rfl⟩
set_option maxRecDepth 100000 in
theorem l_X0_sts {G : xx_G} {l : Launch} {A : xx_H} {b x nx s9 : Nat} {f : Nat → Int32} {D : Nat → Nat} {way : Int32} {s0 n0 : Value} {Q : Option Value ⊕ String → xx_H → Prop} (hb : A.2 b = xx_o 0 [s0, n0, .ref (b + 1)]) (hx : A.2 x = xx_i nx f) (hs : s9 + 6 ≤ nx) (hnx : nx < 2 ^ 31) (hxb : x ≠ b + 1) (hD : ∀ i, i < 6 → D i < yB ∧ f (s9 + i) = nI (D i)) (kC : ∀ (B : xx_H) (f1 : Nat → Int32) (D1 : Nat → Nat) (c : Int), (B.1 = A.1) → (B.2 (b + 1) = xx_i 14 f1) → (∀ j, j < 6 → D1 j < yB ∧ f1 j = nI (D1 j)) → (((yy_val yB D1 6 : Nat) : Int) + c * ((yB ^ 6 : Nat) : Int) = (if way < 0 then -1 else 1) * ((yy_val yB D 6 : Nat) : Int)) → (c.natAbs ≤ 1) → (∀ q, q ≠ b + 1 → B.2 q = A.2 q) → xx_X G l mX0_setToSize 1 0 0 76 [(0, .ref b), (7, .int (nI 6))] [] B Q) :
    ∀ (v i : Nat), i + v = 6 → ∀ (B : xx_H) (f1 : Nat → Int32) (D1 : Nat → Nat) (c : Int), (B.1 = A.1) → (B.2 (b + 1) = xx_i 14 f1) → (∀ j, j < i → D1 j < yB ∧ f1 j = nI (D1 j)) → (((yy_val yB D1 i : Nat) : Int) + c * ((yB ^ i : Nat) : Int) = (if way < 0 then -1 else 1) * ((yy_val yB D i : Nat) : Int)) → (c.natAbs ≤ 1) → (∀ q, q ≠ b + 1 → B.2 q = A.2 q) → xx_X G l mX0_setToSize 1 0 0 14 [(0, .ref b), (1, .ref x), (2, .int (nI s9)), (4, .int way), (5, .long (lz c)), (7, .int (nI 6)), (8, .int (nI i))] [] B Q := by
  intro v
  induction v with
  | zero =>
    intro i h9i B f1 D1 c y1 y2 y5 y7 y8 y9
    have h9e : 6 = i := by omega
    subst h9e
    refine xx_clv (lv2 := [(0, .ref b), (1, .ref x), (2, .int (nI s9)), (4, .int way), (5, .long (lz c)), (7, .int (nI 6)), (8, .int 6)]) rfl ?_
    refine xx_iload dX0_setToSize_14 rfl ?_
    refine xx_iload dX0_setToSize_16 rfl ?_
    refine xx_icmp_ge (tgt := 76) dX0_setToSize_18 (by decide) (fun j18 => ?_) (fun h => absurd (by decide) h)
    refine xx_less [0, 7] ?_
    refine xx_clv (lv2 := [(0, .ref b), (7, .int (nI 6))]) rfl ?_
    exact kC B f1 D1 c y1 y2 y5 y7 y8 y9
  | succ v ih =>
    intro i h9i B f1 D1 c y1 y2 y5 y7 y8 y9
    obtain ⟨d1, d2⟩ := hD i (by omega)
    have d1 : D i < 2147483648 := d1
    have hb2 := (y9 b (by omega)).trans hb
    refine xx_iload dX0_setToSize_14 rfl ?_
    refine xx_iload dX0_setToSize_16 rfl ?_
    refine xx_icmp_ge (tgt := 76) dX0_setToSize_18 (by decide) (fun h => absurd h (nI_ge (a := i) (b := 6) (by omega) (by omega))) (fun j18 => ?_)
    refine xx_lload dX0_setToSize_21 rfl ?_
    refine xx_iload dX0_setToSize_23 rfl ?_
    refine xx_if_ge (tgt := 39) dX0_setToSize_25 (by decide) (fun j25 => ?_) (fun j25 => ?_)
    · refine xx_aload_n dX0_setToSize_39 rfl ?_
      refine xx_iload_n dX0_setToSize_40 rfl ?_
      refine xx_iload dX0_setToSize_41 rfl ?_
      refine xx_iadd dX0_setToSize_43 ?_
      refine xx_eqi (y := nI (s9 + i)) (nI_add s9 i) ?_
      refine xx_iald dX0_setToSize_44 ((y9 x hxb).trans hx) (vp_in_nI (by omega) (by omega)) ?_
      refine xx_eqi (y := iz (D i : Nat)) (by rw [nI_clamp (by omega)]; exact d2) ?_
      refine xx_i2l dX0_setToSize_45 ?_
      refine xx_eql (y := lz ((if way < 0 then -1 else 1) * (D i : Nat))) (by rw [if_neg (Int32.not_lt.mpr j25), Int.one_mul]; exact iz_l (by omega) (by omega)) ?_
      refine xx_ladd dX0_setToSize_46 ?_
      refine xx_eql (y := lz (c + (if way < 0 then -1 else 1) * (D i : Nat))) (lz_add _ _) ?_
      have ub : ((c + (if way < 0 then -1 else 1) * (D i : Nat))).natAbs ≤ 2147483649 := by split <;> omega
      refine xx_lstore dX0_setToSize_47 (by decide) ?_
      refine xx_clv (lv2 := [(0, .ref b), (1, .ref x), (2, .int (nI s9)), (4, .int way), (5, .long (lz (c + (if way < 0 then -1 else 1) * (D i : Nat)))), (7, .int (nI 6)), (8, .int (nI i))]) rfl ?_
      refine xx_aload_n dX0_setToSize_49 rfl ?_
      refine xx_get xx_c0 dX0_setToSize_50 wf_X0_16 (j := 2) (by decide) hb2 rfl ?_
      refine xx_iload dX0_setToSize_53 rfl ?_
      refine xx_lload dX0_setToSize_55 rfl ?_
      refine xx_ldc2 (v := 2147483647) dX0_setToSize_57 wk_X0_26 ?_
      refine xx_land dX0_setToSize_60 ?_
      refine xx_l2i dX0_setToSize_61 ?_
      refine xx_eqi (y := nI ((c + (if way < 0 then -1 else 1) * (D i : Nat)) % 2147483648).toNat) (lz_lo31 _) ?_
      refine xx_iast dX0_setToSize_62 y2 (vp_in_nI (by omega) (by decide)) (xx_gu fun Eq1 z1 h1 o1 => ?_)
      rw [nI_clamp (by omega)] at h1
      have hb3 := (o1 b (by omega)).trans hb2
      refine xx_lload dX0_setToSize_63 rfl ?_
      refine xx_bipush (v := 31) dX0_setToSize_65 (by decide) ?_
      refine xx_lshr dX0_setToSize_67 ?_
      refine xx_eql (y := lz ((c + (if way < 0 then -1 else 1) * (D i : Nat)) / 2147483648)) (lz_hi31 (by omega) (by omega)) ?_
      refine xx_lstore dX0_setToSize_68 (by decide) ?_
      refine xx_clv (lv2 := [(0, .ref b), (1, .ref x), (2, .int (nI s9)), (4, .int way), (5, .long (lz ((c + (if way < 0 then -1 else 1) * (D i : Nat)) / 2147483648))), (7, .int (nI 6)), (8, .int (nI i))]) rfl ?_
      obtain ⟨u9, hu9⟩ : ∃ u : Int, u = (c + (if way < 0 then -1 else 1) * (D i : Nat)) := ⟨_, rfl⟩
      rw [← hu9] at h1 ub ⊢
      obtain ⟨r9, hr9⟩ : ∃ r : Nat, r = (u9 % 2147483648).toNat := ⟨_, rfl⟩
      rw [← hr9] at h1
      have e1 : u9 = u9 / 2147483648 * 2147483648 + (r9 : Int) := by omega
      have r1 : r9 < yB := by show r9 < 2147483648; omega
      have cb : (u9 / 2147483648).natAbs ≤ 1 := by rw [hu9]; split <;> omega
      refine xx_iinc (v := nI (i + 1)) dX0_setToSize_70 rfl (nI_1 i) (by decide) ?_
      refine xx_clv (lv2 := [(0, .ref b), (1, .ref x), (2, .int (nI s9)), (4, .int way), (5, .long (lz (u9 / 2147483648))), (7, .int (nI 6)), (8, .int (nI (i + 1)))]) rfl ?_
      refine xx_goto (tgt := 14) dX0_setToSize_73 (by decide) ?_
      refine xx_less [0, 1, 2, 4, 5, 7, 8] ?_
      refine xx_clv (lv2 := [(0, .ref b), (1, .ref x), (2, .int (nI s9)), (4, .int way), (5, .long (lz (u9 / 2147483648))), (7, .int (nI 6)), (8, .int (nI (i + 1)))]) rfl ?_
      refine ih (i + 1) (by omega) Eq1 _ (fun j => if j = i then r9 else D1 j) (u9 / 2147483648) (by omega) h1 (fun j hj => ?_) ?_ cb (fun q hq => (o1 q hq).trans (y9 q hq))
      · by_cases z : j = i
        · rw [if_pos z, z, pk_us]; exact ⟨r1, rfl⟩
        · rw [if_neg z, pk_un z]; exact y5 j (by omega)
      · rw [yy_upd_eq]
        show (((yy_val yB D1 i + r9 * yB ^ i : Nat)) : Int) + _ * ((yB ^ i * yB : Nat) : Int) = _ * (((yy_val yB D i + D i * yB ^ i : Nat)) : Int)
        simp only [Int.natCast_add, Int.natCast_mul]
        rw [show ((yB : Nat) : Int) = 2147483648 from rfl]
        generalize ((yB ^ i : Nat) : Int) = P9 at y7 ⊢
        generalize ((yy_val yB D1 i : Nat) : Int) = V1 at y7 ⊢
        generalize ((yy_val yB D i : Nat) : Int) = V2 at y7 ⊢
        have e3 : u9 / 2147483648 * (P9 * 2147483648) + (r9 : Int) * P9 = u9 * P9 := by
          conv => rhs; rw [e1]
          rw [Int.add_mul, Int.mul_assoc, Int.mul_comm 2147483648 P9]
        have e4 : u9 * P9 = c * P9 + (if way < 0 then -1 else 1) * (D i : Nat) * P9 := by rw [hu9, Int.add_mul]
        generalize (if way < 0 then (-1 : Int) else 1) = sg at y7 e4 ⊢
        rw [Int.mul_add, ← Int.mul_assoc sg]
        generalize sg * V2 = w1 at y7 ⊢
        generalize sg * (D i : Nat) * P9 = w2 at e4 ⊢
        generalize u9 / 2147483648 * (P9 * 2147483648) = w3 at e3 ⊢
        omega
    · refine xx_aload_n dX0_setToSize_28 rfl ?_
      refine xx_iload_n dX0_setToSize_29 rfl ?_
      refine xx_iload dX0_setToSize_30 rfl ?_
      refine xx_iadd dX0_setToSize_32 ?_
      refine xx_eqi (y := nI (s9 + i)) (nI_add s9 i) ?_
      refine xx_iald dX0_setToSize_33 ((y9 x hxb).trans hx) (vp_in_nI (by omega) (by omega)) ?_
      refine xx_eqi (y := iz (D i : Nat)) (by rw [nI_clamp (by omega)]; exact d2) ?_
      refine xx_ineg dX0_setToSize_34 ?_
      refine xx_eqi (y := iz (-(D i : Nat))) ((Int32.ofInt_neg _).symm) ?_
      refine xx_i2l dX0_setToSize_35 ?_
      refine xx_eql (y := lz ((if way < 0 then -1 else 1) * (D i : Nat))) (by rw [if_pos (Int32.not_le.mp j25), Int.neg_mul, Int.one_mul]; exact iz_l (by omega) (by omega)) ?_
      refine xx_goto (tgt := 46) dX0_setToSize_36 (by decide) ?_
      refine xx_ladd dX0_setToSize_46 ?_
      refine xx_eql (y := lz (c + (if way < 0 then -1 else 1) * (D i : Nat))) (lz_add _ _) ?_
      have ub : ((c + (if way < 0 then -1 else 1) * (D i : Nat))).natAbs ≤ 2147483649 := by split <;> omega
      refine xx_lstore dX0_setToSize_47 (by decide) ?_
      refine xx_clv (lv2 := [(0, .ref b), (1, .ref x), (2, .int (nI s9)), (4, .int way), (5, .long (lz (c + (if way < 0 then -1 else 1) * (D i : Nat)))), (7, .int (nI 6)), (8, .int (nI i))]) rfl ?_
      refine xx_aload_n dX0_setToSize_49 rfl ?_
      refine xx_get xx_c0 dX0_setToSize_50 wf_X0_16 (j := 2) (by decide) hb2 rfl ?_
      refine xx_iload dX0_setToSize_53 rfl ?_
      refine xx_lload dX0_setToSize_55 rfl ?_
      refine xx_ldc2 (v := 2147483647) dX0_setToSize_57 wk_X0_26 ?_
      refine xx_land dX0_setToSize_60 ?_
      refine xx_l2i dX0_setToSize_61 ?_
      refine xx_eqi (y := nI ((c + (if way < 0 then -1 else 1) * (D i : Nat)) % 2147483648).toNat) (lz_lo31 _) ?_
      refine xx_iast dX0_setToSize_62 y2 (vp_in_nI (by omega) (by decide)) (xx_gu fun Eq1 z1 h1 o1 => ?_)
      rw [nI_clamp (by omega)] at h1
      have hb3 := (o1 b (by omega)).trans hb2
      refine xx_lload dX0_setToSize_63 rfl ?_
      refine xx_bipush (v := 31) dX0_setToSize_65 (by decide) ?_
      refine xx_lshr dX0_setToSize_67 ?_
      refine xx_eql (y := lz ((c + (if way < 0 then -1 else 1) * (D i : Nat)) / 2147483648)) (lz_hi31 (by omega) (by omega)) ?_
      refine xx_lstore dX0_setToSize_68 (by decide) ?_
      refine xx_clv (lv2 := [(0, .ref b), (1, .ref x), (2, .int (nI s9)), (4, .int way), (5, .long (lz ((c + (if way < 0 then -1 else 1) * (D i : Nat)) / 2147483648))), (7, .int (nI 6)), (8, .int (nI i))]) rfl ?_
      obtain ⟨u9, hu9⟩ : ∃ u : Int, u = (c + (if way < 0 then -1 else 1) * (D i : Nat)) := ⟨_, rfl⟩
      rw [← hu9] at h1 ub ⊢
      obtain ⟨r9, hr9⟩ : ∃ r : Nat, r = (u9 % 2147483648).toNat := ⟨_, rfl⟩
      rw [← hr9] at h1
      have e1 : u9 = u9 / 2147483648 * 2147483648 + (r9 : Int) := by omega
      have r1 : r9 < yB := by show r9 < 2147483648; omega
      have cb : (u9 / 2147483648).natAbs ≤ 1 := by rw [hu9]; split <;> omega
      refine xx_iinc (v := nI (i + 1)) dX0_setToSize_70 rfl (nI_1 i) (by decide) ?_
      refine xx_clv (lv2 := [(0, .ref b), (1, .ref x), (2, .int (nI s9)), (4, .int way), (5, .long (lz (u9 / 2147483648))), (7, .int (nI 6)), (8, .int (nI (i + 1)))]) rfl ?_
      refine xx_goto (tgt := 14) dX0_setToSize_73 (by decide) ?_
      refine xx_less [0, 1, 2, 4, 5, 7, 8] ?_
      refine xx_clv (lv2 := [(0, .ref b), (1, .ref x), (2, .int (nI s9)), (4, .int way), (5, .long (lz (u9 / 2147483648))), (7, .int (nI 6)), (8, .int (nI (i + 1)))]) rfl ?_
      refine ih (i + 1) (by omega) Eq1 _ (fun j => if j = i then r9 else D1 j) (u9 / 2147483648) (by omega) h1 (fun j hj => ?_) ?_ cb (fun q hq => (o1 q hq).trans (y9 q hq))
      · by_cases z : j = i
        · rw [if_pos z, z, pk_us]; exact ⟨r1, rfl⟩
        · rw [if_neg z, pk_un z]; exact y5 j (by omega)
      · rw [yy_upd_eq]
        show (((yy_val yB D1 i + r9 * yB ^ i : Nat)) : Int) + _ * ((yB ^ i * yB : Nat) : Int) = _ * (((yy_val yB D i + D i * yB ^ i : Nat)) : Int)
        simp only [Int.natCast_add, Int.natCast_mul]
        rw [show ((yB : Nat) : Int) = 2147483648 from rfl]
        generalize ((yB ^ i : Nat) : Int) = P9 at y7 ⊢
        generalize ((yy_val yB D1 i : Nat) : Int) = V1 at y7 ⊢
        generalize ((yy_val yB D i : Nat) : Int) = V2 at y7 ⊢
        have e3 : u9 / 2147483648 * (P9 * 2147483648) + (r9 : Int) * P9 = u9 * P9 := by
          conv => rhs; rw [e1]
          rw [Int.add_mul, Int.mul_assoc, Int.mul_comm 2147483648 P9]
        have e4 : u9 * P9 = c * P9 + (if way < 0 then -1 else 1) * (D i : Nat) * P9 := by rw [hu9, Int.add_mul]
        generalize (if way < 0 then (-1 : Int) else 1) = sg at y7 e4 ⊢
        rw [Int.mul_add, ← Int.mul_assoc sg]
        generalize sg * V2 = w1 at y7 ⊢
        generalize sg * (D i : Nat) * P9 = w2 at e4 ⊢
        generalize u9 / 2147483648 * (P9 * 2147483648) = w3 at e3 ⊢
        omega
set_option maxRecDepth 100000 in
theorem c_X0_setToSize {G : xx_G} {l : Launch} {A : xx_H} {b x nx s9 : Nat} {f : Nat → Int32} {v t : Int} (hb : xx_bg A b t) (hx : A.2 x = xx_i nx f) (hs : s9 + 6 ≤ nx) (hnx : nx < 2 ^ 31) (hxb : x ≠ b + 1) (hxb2 : x ≠ b) (hf : xx_mh f s9 v) (hv : v.natAbs < 2 ^ 185) : xx_X G l mX0_setToSize 1 0 0 0 (lv_args 0 [.ref b, .ref x, .int (nI s9), .int 6, .int (iz v.sign)]) [] A (fun z B => z = .inl none ∧ B.1 = A.1 ∧ xx_bg B b (v.natAbs : Int) ∧ ∀ q, q ≠ b → q ≠ b + 1 → B.2 q = A.2 q) := by
  obtain ⟨D, hD, eD⟩ := hf
  obtain ⟨g1, g2, g3⟩ := ym_neg (fun i hi => (hD i hi).1) eD hv
  obtain ⟨fb, lb, b1, b2, _⟩ := hb
  refine xx_clv (lv2 := [(0, .ref b), (1, .ref x), (2, .int (nI s9)), (3, .int 6), (4, .int (iz v.sign))]) rfl ?_
  refine xx_lconst (v := 0) dX0_setToSize_0 (by decide) ?_
  refine xx_lstore dX0_setToSize_1 (by decide) ?_
  refine xx_clv (lv2 := [(0, .ref b), (1, .ref x), (2, .int (nI s9)), (3, .int 6), (4, .int (iz v.sign)), (5, .long 0)]) rfl ?_
  refine xx_iload_n dX0_setToSize_3 rfl ?_
  refine xx_bipush (v := 14) dX0_setToSize_4 (by decide) ?_
  refine xx_mmin dX0_setToSize_6 xx_mth0min (by decide) (Nat.le_of_ble_eq_true rfl) ?_
  refine xx_eqi (y := nI 6) (by decide) ?_
  refine xx_istore dX0_setToSize_9 (by decide) ?_
  refine xx_clv (lv2 := [(0, .ref b), (1, .ref x), (2, .int (nI s9)), (3, .int 6), (4, .int (iz v.sign)), (5, .long 0), (7, .int (nI 6))]) rfl ?_
  refine xx_iconst (v := 0) dX0_setToSize_11 (by decide) ?_
  refine xx_istore dX0_setToSize_12 (by decide) ?_
  refine xx_clv (lv2 := [(0, .ref b), (1, .ref x), (2, .int (nI s9)), (3, .int 6), (4, .int (iz v.sign)), (5, .long 0), (7, .int (nI 6)), (8, .int 0)]) rfl ?_
  refine xx_less [0, 1, 2, 4, 5, 7, 8] ?_
  refine xx_clv (lv2 := [(0, .ref b), (1, .ref x), (2, .int (nI s9)), (4, .int (iz v.sign)), (5, .long (lz 0)), (7, .int (nI 6)), (8, .int (nI 0))]) rfl ?_
  refine l_X0_sts b1 hx hs hnx hxb hD (fun B f1 D1 c y1 y2 y5 y7 y8 y9 => ?_) 6 0 (by omega) A fb D 0 rfl b2 (fun j hj => absurd hj (Nat.not_lt_zero j)) (by rw [Int.zero_mul]; show ((0 : Nat) : Int) + 0 = _ * ((0 : Nat) : Int); rw [Int.natCast_zero, Int.mul_zero]; rfl) (by decide) (fun q _ => rfl)
  have lt := yy_val_lt (β := yB) (D := D1) (n := 6) (fun i hi => (y5 i hi).1)
  rw [yB6] at lt y7
  have c186 : ((2 ^ 186 : Nat) : Int) = 2 ^ 186 := by rfl
  have lt2 : ((yy_val yB D1 6 : Nat) : Int) < 2 ^ 186 := by exact_mod_cast lt
  have lt3 := yy_val_lt (β := yB) (D := D) (n := 6) (fun i hi => (hD i hi).1)
  rw [yB6] at lt3
  have lt4 : ((yy_val yB D 6 : Nat) : Int) < 2 ^ 186 := by exact_mod_cast lt3
  have key : v.natAbs = yy_val yB D1 6 := by
    rw [c186] at y7
    by_cases z : v < 0
    · have e9 := g3 z
      rw [Int.sign_eq_neg_one_of_neg z, if_pos (by decide)] at y7
      rcases (show c = -1 ∨ c = 0 ∨ c = 1 by omega) with q | q | q <;> rw [q] at y7 <;> omega
    · have e9 := g2 (Int.not_lt.mp z)
      rw [if_neg (show ¬ iz v.sign < 0 from fun q => by rcases Int.lt_or_eq_of_le (Int.not_lt.mp z) with w | w; rw [Int.sign_eq_one_of_pos w] at q; exact absurd q (by decide); rw [← w] at q; exact absurd q (by decide)), Int.one_mul] at y7
      rcases (show c = -1 ∨ c = 0 ∨ c = 1 by omega) with q | q | q <;> rw [q] at y7 <;> omega
  have hb2 := (y9 b (by omega)).trans b1
  refine xx_aload_n dX0_setToSize_76 rfl ?_
  refine xx_iload dX0_setToSize_77 rfl ?_
  refine xx_iconst (v := 1) dX0_setToSize_79 (by decide) ?_
  refine xx_callV (N := mX0_trim) (vs := [.int (nI 6), .int 1]) (b := b) (rest := []) (d2 := 0) (c2 := 0) (s2 := 0) (c3 := 0) (s3 := 0) dX0_setToSize_80 wm_X0_28 wi_X0_trim wv_X0_trim (k := 0) rfl (by decide) hb2 nX0_trim ⟨pX0_trim, Nat.le_of_ble_eq_true rfl, by decide, Nat.le_of_ble_eq_true rfl, by decide, by decide⟩ (c_trim (t := 6) (v := (v.natAbs : Int)) hb2 y2 (by decide) y5 (by rw [Int.natAbs_natCast]; exact key) (fun h => by rw [Int.sign_eq_one_of_pos (by omega)]; rfl)) (fun v9 Eq2 hC => ?_) (fun E9 B9 hC => absurd hC.1 (by simp))
  obtain ⟨hv9, z2, v2, f2⟩ := hC
  cases hv9
  refine xx_cst (st2 := []) rfl ?_
  exact xx_vret dX0_setToSize_83 rfl ⟨rfl, by omega, v2, fun q a1 a2 => (f2 q a1).trans (y9 q a2)⟩
