/-! ===== Big: setDifference, addSigned, add, subtract ===== -/
theorem lo31Z {z : Int} : (lz z &&& 2147483647).toInt32 = nI (z % 2147483648).toNat := lz_lo31 z
set_option maxRecDepth 100000 in
theorem l_X0_sd1 {G : xx_G} {l : Launch} {A : xx_H} {b x len lex : Nat} {s0 s1 : Value} {way : Int32} {f g : Nat → Int32} {D E : Nat → Nat} {Q : Option Value ⊕ String → xx_H → Prop} (hb : A.2 b = xx_o 0 [s0, .int (nI len), .ref (b + 1)]) (hf : A.2 (b + 1) = xx_i 14 f) (hx : A.2 x = xx_o 0 [s1, .int (nI lex), .ref (x + 1)]) (hg : A.2 (x + 1) = xx_i 14 g) (n1 : x ≠ b) (n2 : x ≠ b + 1) (n3 : x + 1 ≠ b) (hl : len ≤ 14) (hle : lex ≤ 14) (hD : ∀ i, i < len → D i < yB ∧ f i = nI (D i)) (hE : ∀ i, i < lex → E i < yB ∧ g i = nI (E i)) (k : ∀ (B : xx_H) (f1 : Nat → Int32) (D1 : Nat → Nat) (c : Int), B.1 = A.1 → B.2 b = xx_o 0 [s0, .int (nI len), .ref (b + 1)] → B.2 (b + 1) = xx_i 14 f1 → (∀ j, j < len → D1 j < yB ∧ f1 j = nI (D1 j)) → ((yy_val yB D1 len : Nat) : Int) + c * ((yB ^ len : Nat) : Int) = ((yy_val yB (yy_pad D len) len : Nat) : Int) - ((yy_val yB (yy_pad E lex) len : Nat) : Int) → (∀ q, q ≠ b + 1 → B.2 q = A.2 q) → xx_X G l mX0_setDifference 1 0 0 66 [(0, .ref b), (3, .int way), (6, .int (nI len))] [] B Q) :
    ∀ (r i : Nat), i + r = len → ∀ (B : xx_H) (f1 : Nat → Int32) (D1 : Nat → Nat) (c : Int), B.1 = A.1 → B.2 (b + 1) = xx_i 14 f1 → (∀ j, i ≤ j → f1 j = f j) → (∀ j, j < i → D1 j < yB ∧ f1 j = nI (D1 j)) → -1 ≤ c → c ≤ 0 → ((yy_val yB D1 i : Nat) : Int) + c * ((yB ^ i : Nat) : Int) = ((yy_val yB (yy_pad D len) i : Nat) : Int) - ((yy_val yB (yy_pad E lex) i : Nat) : Int) → (∀ q, q ≠ b + 1 → B.2 q = A.2 q) → xx_X G l mX0_setDifference 1 0 0 12 [(0, .ref b), (1, .ref b), (2, .ref x), (3, .int way), (4, .long (lz c)), (6, .int (nI len)), (7, .int (nI i))] [] B Q := by
  intro r
  induction r with
  | zero =>
    intro i hi B f1 D1 c hz hf1 ho hd hc1 hc2 hv hfr
    have : i = len := by omega
    subst this
    have hb2 := (hfr b (by omega)).trans hb
    refine xx_iload dX0_setDifference_12 rfl ?_
    refine xx_iload dX0_setDifference_14 rfl ?_
    refine xx_icmp_ge (tgt := 66) dX0_setDifference_16 (by decide) (fun j16 => ?_) (fun h => absurd (Int32.le_refl _) h)
    refine xx_less [0, 3, 6] ?_
    refine xx_clv (lv2 := [(0, .ref b), (3, .int way), (6, .int (nI i))]) rfl ?_
    exact k B f1 D1 c hz hb2 hf1 hd hv hfr
  | succ r ih =>
    intro i hi B f1 D1 c hz hf1 ho hd hc1 hc2 hv hfr
    have hb2 := (hfr b (by omega)).trans hb
    have hx2 := (hfr x (by omega)).trans hx
    have hg2 := (hfr (x + 1) (by omega)).trans hg
    have p1 : yy_pad D len i < 2147483648 := yy_padlt hD i
    have p2 : yy_pad E lex i < 2147483648 := yy_padlt hE i
    have q1 : yy_lb f1 len i = nI (yy_pad D len i) := by
      rw [← yy_lbp hD]; unfold yy_lb; rw [ho i (Nat.le_refl i)]
    have q2 : yy_lb g lex i = nI (yy_pad E lex i) := yy_lbp hE
    refine xx_iload dX0_setDifference_12 rfl ?_
    refine xx_iload dX0_setDifference_14 rfl ?_
    refine xx_icmp_ge (tgt := 66) dX0_setDifference_16 (by decide) (fun h => absurd h (nI_ge (by omega) (by omega))) (fun j16 => ?_)
    refine xx_lload dX0_setDifference_19 rfl ?_
    refine xx_aload_n dX0_setDifference_21 rfl ?_
    refine xx_iload dX0_setDifference_22 rfl ?_
    refine xx_callV (N := mX0_limb) (vs := [.int (nI i)]) (b := b) (rest := [.long (lz c)]) (d2 := 0) (c2 := 0) (s2 := 0) (c3 := 0) (s3 := 0) dX0_setDifference_24 wm_X0_76 wi_X0_limb wv_X0_limb (k := 0) rfl (by decide) hb2 nX0_limb ⟨pX0_limb, Nat.le_of_ble_eq_true rfl, by decide, Nat.le_of_ble_eq_true rfl, by decide, by decide⟩ (c_X0_limb hb2 hf1 hl (by omega)) (fun v2 B2 hC => ?_) (fun E B2 hC => absurd hC.1 (by simp))
    obtain ⟨hv, rfl⟩ := hC
    cases hv
    refine xx_cst (st2 := [.int (nI (yy_pad D len i)), .long (lz c)]) (by rw [q1]; rfl) ?_
    refine xx_i2l dX0_setDifference_27 ?_
    refine xx_eql (y := lz ((yy_pad D len i : Nat) : Int)) (nI_l (by omega)) ?_
    refine xx_aload_n dX0_setDifference_28 rfl ?_
    refine xx_iload dX0_setDifference_29 rfl ?_
    refine xx_callV (N := mX0_limb) (vs := [.int (nI i)]) (b := x) (rest := [.long (lz ((yy_pad D len i : Nat) : Int)), .long (lz c)]) (d2 := 0) (c2 := 0) (s2 := 0) (c3 := 0) (s3 := 0) dX0_setDifference_31 wm_X0_76 wi_X0_limb wv_X0_limb (k := 0) rfl (by decide) hx2 nX0_limb ⟨pX0_limb, Nat.le_of_ble_eq_true rfl, by decide, Nat.le_of_ble_eq_true rfl, by decide, by decide⟩ (c_X0_limb hx2 hg2 hle (by omega)) (fun v2 B2 hC => ?_) (fun E B2 hC => absurd hC.1 (by simp))
    obtain ⟨hv, rfl⟩ := hC
    cases hv
    refine xx_cst (st2 := [.int (nI (yy_pad E lex i)), .long (lz ((yy_pad D len i : Nat) : Int)), .long (lz c)]) (by rw [q2]; rfl) ?_
    refine xx_i2l dX0_setDifference_34 ?_
    refine xx_eql (y := lz ((yy_pad E lex i : Nat) : Int)) (nI_l (by omega)) ?_
    refine xx_lsub dX0_setDifference_35 ?_
    refine xx_ladd dX0_setDifference_36 ?_
    refine xx_eql (y := lz (c + (((yy_pad D len i : Nat) : Int) - ((yy_pad E lex i : Nat) : Int)))) (by rw [lz_sub, lz_add]) ?_
    refine xx_lstore dX0_setDifference_37 (by decide) ?_
    refine xx_clv (lv2 := [(0, .ref b), (1, .ref b), (2, .ref x), (3, .int way), (4, .long (lz (c + (((yy_pad D len i : Nat) : Int) - ((yy_pad E lex i : Nat) : Int))))), (6, .int (nI len)), (7, .int (nI i))]) rfl ?_
    refine xx_aload_n dX0_setDifference_39 rfl ?_
    refine xx_get xx_c0 dX0_setDifference_40 wf_X0_16 (j := 2) (by decide) hb2 rfl ?_
    refine xx_iload dX0_setDifference_43 rfl ?_
    refine xx_lload dX0_setDifference_45 rfl ?_
    refine xx_ldc2 (v := 2147483647) dX0_setDifference_47 wk_X0_26 ?_
    refine xx_land dX0_setDifference_50 ?_
    refine xx_l2i dX0_setDifference_51 ?_
    refine xx_eqi (y := nI ((c + (((yy_pad D len i : Nat) : Int) - ((yy_pad E lex i : Nat) : Int))) % 2147483648).toNat) lo31Z ?_
    refine xx_iast dX0_setDifference_52 hf1 (vp_in_nI (by omega) (by decide)) (xx_gu fun C z1 h1 o1 => ?_)
    rw [nI_clamp (by omega)] at h1
    refine xx_lload dX0_setDifference_53 rfl ?_
    refine xx_bipush (v := 31) dX0_setDifference_55 (by decide) ?_
    refine xx_lshr dX0_setDifference_57 ?_
    refine xx_eql (y := lz ((c + (((yy_pad D len i : Nat) : Int) - ((yy_pad E lex i : Nat) : Int))) / 2147483648)) (lz_hi31 (by omega) (by omega)) ?_
    refine xx_lstore dX0_setDifference_58 (by decide) ?_
    refine xx_clv (lv2 := [(0, .ref b), (1, .ref b), (2, .ref x), (3, .int way), (4, .long (lz ((c + (((yy_pad D len i : Nat) : Int) - ((yy_pad E lex i : Nat) : Int))) / 2147483648))), (6, .int (nI len)), (7, .int (nI i))]) rfl ?_
    refine xx_iinc (v := nI (i + 1)) dX0_setDifference_60 rfl (nI_1 i) (by decide) ?_
    refine xx_goto (tgt := 12) dX0_setDifference_63 (by decide) ?_
    refine xx_clv (lv2 := [(0, .ref b), (1, .ref b), (2, .ref x), (3, .int way), (4, .long (lz ((c + (((yy_pad D len i : Nat) : Int) - ((yy_pad E lex i : Nat) : Int))) / 2147483648))), (6, .int (nI len)), (7, .int (nI (i + 1)))]) rfl ?_
    have r0 : 0 ≤ (c + (((yy_pad D len i : Nat) : Int) - ((yy_pad E lex i : Nat) : Int))) % 2147483648 := Int.emod_nonneg _ (by decide)
    have r1 : (c + (((yy_pad D len i : Nat) : Int) - ((yy_pad E lex i : Nat) : Int))) % 2147483648 < 2147483648 := Int.emod_lt_of_pos _ (by decide)
    refine ih (i + 1) (by omega) C (upd f1 i (nI ((c + (((yy_pad D len i : Nat) : Int) - ((yy_pad E lex i : Nat) : Int))) % 2147483648).toNat)) (fun j => if j = i then ((c + (((yy_pad D len i : Nat) : Int) - ((yy_pad E lex i : Nat) : Int))) % 2147483648).toNat else D1 j) _ (by omega) h1 (fun j hj => ?_) (fun j hj => ?_) (by omega) (by omega) ?_ (fun q hq => (o1 q hq).trans (hfr q hq))
    · rw [pk_un (by omega)]; exact ho j (by omega)
    · by_cases e : j = i
      · subst e; rw [pk_us]; exact ⟨by rw [if_pos rfl]; show _ < 2147483648; omega, by rw [if_pos rfl]⟩
      · rw [pk_un e, if_neg e]; exact hd j (by omega)
    · rw [yy_upd_eq, Nat.pow_succ]
      have h9 := yy_stz _ c ((yB ^ i : Nat) : Int) _ (((yy_pad D len i : Nat) : Int) - ((yy_pad E lex i : Nat) : Int)) ((c + (((yy_pad D len i : Nat) : Int) - ((yy_pad E lex i : Nat) : Int))) % 2147483648) ((c + (((yy_pad D len i : Nat) : Int) - ((yy_pad E lex i : Nat) : Int))) / 2147483648) 2147483648 hv (Int.emod_add_mul_ediv _ _)
      have h10 : ((((c + (((yy_pad D len i : Nat) : Int) - ((yy_pad E lex i : Nat) : Int))) % 2147483648).toNat : Nat) : Int) = (c + (((yy_pad D len i : Nat) : Int) - ((yy_pad E lex i : Nat) : Int))) % 2147483648 := Int.toNat_of_nonneg r0
      rw [Int.natCast_add, Int.natCast_mul, h10, Int.natCast_mul]
      show _ + _ * (((yB ^ i : Nat) : Int) * 2147483648) = ((yy_val yB (yy_pad D len) i + (yy_pad D len) i * yB ^ i : Nat) : Int) - ((yy_val yB (yy_pad E lex) i + (yy_pad E lex) i * yB ^ i : Nat) : Int)
      rw [h9, Int.natCast_add, Int.natCast_mul, Int.natCast_add, Int.natCast_mul, Int.sub_mul]
      omega
set_option maxRecDepth 100000 in
theorem c_X0_sd1 {G : xx_G} {l : Launch} {A : xx_H} {b x : Nat} {u v t : Int} {way : Int32} (hb : xx_bg A b u) (hx : xx_bg A x v) (n1 : x ≠ b) (n2 : x ≠ b + 1) (n3 : x + 1 ≠ b) (hge : v.natAbs ≤ u.natAbs) (ht : t.natAbs = u.natAbs - v.natAbs) (hw : t ≠ 0 → way = iz t.sign) : xx_X G l mX0_setDifference 1 0 0 0 (lv_args 0 [.ref b, .ref b, .ref x, .int way]) [] A (fun r B => r = .inl none ∧ B.1 = A.1 ∧ xx_bg B b t ∧ ∀ q, q ≠ b → q ≠ b + 1 → B.2 q = A.2 q) := by
  obtain ⟨f, len, hb, hf, g3⟩ := hb
  obtain ⟨g, lex, hx, hg, k3⟩ := hx
  have a1 := g3.lt
  have a2 := k3.lt
  have g4 := g3
  have k4 := k3
  obtain ⟨hl, D, hD, dD, eD⟩ := g3
  obtain ⟨hle, E, hE, dE, eE⟩ := k3
  have hll : lex ≤ len := by
    apply Nat.le_of_not_lt
    intro q
    have e : lex = (lex - 1) + 1 := by omega
    rw [e] at k4
    have h1 := k4.ge
    have h2 : yB ^ len ≤ yB ^ (lex - 1) := Nat.pow_le_pow_right (by decide) (by omega)
    omega
  refine xx_clv (lv2 := [(0, .ref b), (1, .ref b), (2, .ref x), (3, .int way)]) rfl ?_
  refine xx_lconst (v := 0) dX0_setDifference_0 (by decide) ?_
  refine xx_lstore dX0_setDifference_1 (by decide) ?_
  refine xx_clv (lv2 := [(0, .ref b), (1, .ref b), (2, .ref x), (3, .int way), (4, .long 0)]) rfl ?_
  refine xx_aload_n dX0_setDifference_3 rfl ?_
  refine xx_get xx_c0 dX0_setDifference_4 wf_X0_13 (j := 1) (by decide) hb rfl ?_
  refine xx_istore dX0_setDifference_7 (by decide) ?_
  refine xx_clv (lv2 := [(0, .ref b), (1, .ref b), (2, .ref x), (3, .int way), (4, .long 0), (6, .int (nI len))]) rfl ?_
  refine xx_iconst (v := 0) dX0_setDifference_9 (by decide) ?_
  refine xx_istore dX0_setDifference_10 (by decide) ?_
  refine xx_clv (lv2 := [(0, .ref b), (1, .ref b), (2, .ref x), (3, .int way), (4, .long 0), (6, .int (nI len)), (7, .int 0)]) rfl ?_
  refine xx_clv (lv2 := [(0, .ref b), (1, .ref b), (2, .ref x), (3, .int way), (4, .long (lz 0)), (6, .int (nI len)), (7, .int (nI 0))]) rfl ?_
  refine l_X0_sd1 hb hf hx hg n1 n2 n3 hl hle hD hE (fun B f1 D1 c y1 y2 y3 y4 y5 y6 => ?_) len 0 (by omega) A f D 0 rfl hf (fun j _ => rfl) (fun j hj => absurd hj (Nat.not_lt_zero j)) (by decide) (by decide) rfl (fun q _ => rfl)
  rw [yy_pad_val (Nat.le_refl _), yy_pad_val (hll), ← eD, ← eE] at y5
  have hlt := yy_val_lt (β := yB) (D := D1) (n := len) (fun i hi => (y4 i hi).1)
  have hP : (0 : Int) < ((yB ^ len : Nat) : Int) := by have := Nat.pow_pos (n := len) (show 0 < yB by decide); omega
  have c0 : c = 0 := by
    have c1 : ¬ c ≤ -1 := fun q => by
      have : c * ((yB ^ len : Nat) : Int) ≤ -1 * ((yB ^ len : Nat) : Int) := Int.mul_le_mul_of_nonneg_right q (by omega)
      omega
    have c2 : ¬ 1 ≤ c := fun q => by
      have : 1 * ((yB ^ len : Nat) : Int) ≤ c * ((yB ^ len : Nat) : Int) := Int.mul_le_mul_of_nonneg_right q (by omega)
      omega
    omega
  rw [c0] at y5
  refine xx_aload_n dX0_setDifference_66 rfl ?_
  refine xx_iload dX0_setDifference_67 rfl ?_
  refine xx_iload_n dX0_setDifference_69 rfl ?_
  refine xx_callV (N := mX0_trim) (vs := [.int (nI len), .int way]) (b := b) (rest := []) (d2 := 0) (c2 := 0) (s2 := 0) (c3 := 0) (s3 := 0) dX0_setDifference_70 wm_X0_28 wi_X0_trim wv_X0_trim (k := 0) rfl (by decide) y2 nX0_trim ⟨pX0_trim, Nat.le_of_ble_eq_true rfl, by decide, Nat.le_of_ble_eq_true rfl, by decide, by decide⟩ (c_trim y2 y3 hl y4 (by rw [ht]; omega) hw) (fun v2 C hC => ?_) (fun E C hC => absurd hC.1 (by simp))
  obtain ⟨hv, x1, x2, x3⟩ := hC
  cases hv
  refine xx_cst (st2 := []) rfl ?_
  exact xx_vret dX0_setDifference_73 rfl ⟨rfl, by omega, x2, fun q h1 h2 => (x3 q h1).trans (y6 q h2)⟩
set_option maxRecDepth 100000 in
theorem l_X0_sd2 {G : xx_G} {l : Launch} {A : xx_H} {b x len lex : Nat} {s0 s1 : Value} {way : Int32} {f g : Nat → Int32} {D E : Nat → Nat} {Q : Option Value ⊕ String → xx_H → Prop} (hb : A.2 b = xx_o 0 [s0, .int (nI len), .ref (b + 1)]) (hf : A.2 (b + 1) = xx_i 14 f) (hx : A.2 x = xx_o 0 [s1, .int (nI lex), .ref (x + 1)]) (hg : A.2 (x + 1) = xx_i 14 g) (n1 : x ≠ b) (n2 : x ≠ b + 1) (n3 : x + 1 ≠ b) (hl : len ≤ 14) (hle : lex ≤ 14) (hD : ∀ i, i < len → D i < yB ∧ f i = nI (D i)) (hE : ∀ i, i < lex → E i < yB ∧ g i = nI (E i)) (k : ∀ (B : xx_H) (f1 : Nat → Int32) (D1 : Nat → Nat) (c : Int), B.1 = A.1 → B.2 b = xx_o 0 [s0, .int (nI len), .ref (b + 1)] → B.2 (b + 1) = xx_i 14 f1 → (∀ j, j < lex → D1 j < yB ∧ f1 j = nI (D1 j)) → ((yy_val yB D1 lex : Nat) : Int) + c * ((yB ^ lex : Nat) : Int) = ((yy_val yB (yy_pad E lex) lex : Nat) : Int) - ((yy_val yB (yy_pad D len) lex : Nat) : Int) → (∀ q, q ≠ b + 1 → B.2 q = A.2 q) → xx_X G l mX0_setDifference 1 0 0 66 [(0, .ref b), (3, .int way), (6, .int (nI lex))] [] B Q) :
    ∀ (r i : Nat), i + r = lex → ∀ (B : xx_H) (f1 : Nat → Int32) (D1 : Nat → Nat) (c : Int), B.1 = A.1 → B.2 (b + 1) = xx_i 14 f1 → (∀ j, i ≤ j → f1 j = f j) → (∀ j, j < i → D1 j < yB ∧ f1 j = nI (D1 j)) → -1 ≤ c → c ≤ 0 → ((yy_val yB D1 i : Nat) : Int) + c * ((yB ^ i : Nat) : Int) = ((yy_val yB (yy_pad E lex) i : Nat) : Int) - ((yy_val yB (yy_pad D len) i : Nat) : Int) → (∀ q, q ≠ b + 1 → B.2 q = A.2 q) → xx_X G l mX0_setDifference 1 0 0 12 [(0, .ref b), (1, .ref x), (2, .ref b), (3, .int way), (4, .long (lz c)), (6, .int (nI lex)), (7, .int (nI i))] [] B Q := by
  intro r
  induction r with
  | zero =>
    intro i hi B f1 D1 c hz hf1 ho hd hc1 hc2 hv hfr
    have : i = lex := by omega
    subst this
    have hb2 := (hfr b (by omega)).trans hb
    refine xx_iload dX0_setDifference_12 rfl ?_
    refine xx_iload dX0_setDifference_14 rfl ?_
    refine xx_icmp_ge (tgt := 66) dX0_setDifference_16 (by decide) (fun j16 => ?_) (fun h => absurd (Int32.le_refl _) h)
    refine xx_less [0, 3, 6] ?_
    refine xx_clv (lv2 := [(0, .ref b), (3, .int way), (6, .int (nI i))]) rfl ?_
    exact k B f1 D1 c hz hb2 hf1 hd hv hfr
  | succ r ih =>
    intro i hi B f1 D1 c hz hf1 ho hd hc1 hc2 hv hfr
    have hb2 := (hfr b (by omega)).trans hb
    have hx2 := (hfr x (by omega)).trans hx
    have hg2 := (hfr (x + 1) (by omega)).trans hg
    have p1 : yy_pad D len i < 2147483648 := yy_padlt hD i
    have p2 : yy_pad E lex i < 2147483648 := yy_padlt hE i
    have q1 : yy_lb f1 len i = nI (yy_pad D len i) := by
      rw [← yy_lbp hD]; unfold yy_lb; rw [ho i (Nat.le_refl i)]
    have q2 : yy_lb g lex i = nI (yy_pad E lex i) := yy_lbp hE
    refine xx_iload dX0_setDifference_12 rfl ?_
    refine xx_iload dX0_setDifference_14 rfl ?_
    refine xx_icmp_ge (tgt := 66) dX0_setDifference_16 (by decide) (fun h => absurd h (nI_ge (by omega) (by omega))) (fun j16 => ?_)
    refine xx_lload dX0_setDifference_19 rfl ?_
    refine xx_aload_n dX0_setDifference_21 rfl ?_
    refine xx_iload dX0_setDifference_22 rfl ?_
    refine xx_callV (N := mX0_limb) (vs := [.int (nI i)]) (b := x) (rest := [.long (lz c)]) (d2 := 0) (c2 := 0) (s2 := 0) (c3 := 0) (s3 := 0) dX0_setDifference_24 wm_X0_76 wi_X0_limb wv_X0_limb (k := 0) rfl (by decide) hx2 nX0_limb ⟨pX0_limb, Nat.le_of_ble_eq_true rfl, by decide, Nat.le_of_ble_eq_true rfl, by decide, by decide⟩ (c_X0_limb hx2 hg2 hle (by omega)) (fun v2 B2 hC => ?_) (fun E B2 hC => absurd hC.1 (by simp))
    obtain ⟨hv, rfl⟩ := hC
    cases hv
    refine xx_cst (st2 := [.int (nI (yy_pad E lex i)), .long (lz c)]) (by rw [q2]; rfl) ?_
    refine xx_i2l dX0_setDifference_27 ?_
    refine xx_eql (y := lz ((yy_pad E lex i : Nat) : Int)) (nI_l (by omega)) ?_
    refine xx_aload_n dX0_setDifference_28 rfl ?_
    refine xx_iload dX0_setDifference_29 rfl ?_
    refine xx_callV (N := mX0_limb) (vs := [.int (nI i)]) (b := b) (rest := [.long (lz ((yy_pad E lex i : Nat) : Int)), .long (lz c)]) (d2 := 0) (c2 := 0) (s2 := 0) (c3 := 0) (s3 := 0) dX0_setDifference_31 wm_X0_76 wi_X0_limb wv_X0_limb (k := 0) rfl (by decide) hb2 nX0_limb ⟨pX0_limb, Nat.le_of_ble_eq_true rfl, by decide, Nat.le_of_ble_eq_true rfl, by decide, by decide⟩ (c_X0_limb hb2 hf1 hl (by omega)) (fun v2 B2 hC => ?_) (fun E B2 hC => absurd hC.1 (by simp))
    obtain ⟨hv, rfl⟩ := hC
    cases hv
    refine xx_cst (st2 := [.int (nI (yy_pad D len i)), .long (lz ((yy_pad E lex i : Nat) : Int)), .long (lz c)]) (by rw [q1]; rfl) ?_
    refine xx_i2l dX0_setDifference_34 ?_
    refine xx_eql (y := lz ((yy_pad D len i : Nat) : Int)) (nI_l (by omega)) ?_
    refine xx_lsub dX0_setDifference_35 ?_
    refine xx_ladd dX0_setDifference_36 ?_
    refine xx_eql (y := lz (c + (((yy_pad E lex i : Nat) : Int) - ((yy_pad D len i : Nat) : Int)))) (by rw [lz_sub, lz_add]) ?_
    refine xx_lstore dX0_setDifference_37 (by decide) ?_
    refine xx_clv (lv2 := [(0, .ref b), (1, .ref x), (2, .ref b), (3, .int way), (4, .long (lz (c + (((yy_pad E lex i : Nat) : Int) - ((yy_pad D len i : Nat) : Int))))), (6, .int (nI lex)), (7, .int (nI i))]) rfl ?_
    refine xx_aload_n dX0_setDifference_39 rfl ?_
    refine xx_get xx_c0 dX0_setDifference_40 wf_X0_16 (j := 2) (by decide) hb2 rfl ?_
    refine xx_iload dX0_setDifference_43 rfl ?_
    refine xx_lload dX0_setDifference_45 rfl ?_
    refine xx_ldc2 (v := 2147483647) dX0_setDifference_47 wk_X0_26 ?_
    refine xx_land dX0_setDifference_50 ?_
    refine xx_l2i dX0_setDifference_51 ?_
    refine xx_eqi (y := nI ((c + (((yy_pad E lex i : Nat) : Int) - ((yy_pad D len i : Nat) : Int))) % 2147483648).toNat) lo31Z ?_
    refine xx_iast dX0_setDifference_52 hf1 (vp_in_nI (by omega) (by decide)) (xx_gu fun C z1 h1 o1 => ?_)
    rw [nI_clamp (by omega)] at h1
    refine xx_lload dX0_setDifference_53 rfl ?_
    refine xx_bipush (v := 31) dX0_setDifference_55 (by decide) ?_
    refine xx_lshr dX0_setDifference_57 ?_
    refine xx_eql (y := lz ((c + (((yy_pad E lex i : Nat) : Int) - ((yy_pad D len i : Nat) : Int))) / 2147483648)) (lz_hi31 (by omega) (by omega)) ?_
    refine xx_lstore dX0_setDifference_58 (by decide) ?_
    refine xx_clv (lv2 := [(0, .ref b), (1, .ref x), (2, .ref b), (3, .int way), (4, .long (lz ((c + (((yy_pad E lex i : Nat) : Int) - ((yy_pad D len i : Nat) : Int))) / 2147483648))), (6, .int (nI lex)), (7, .int (nI i))]) rfl ?_
    refine xx_iinc (v := nI (i + 1)) dX0_setDifference_60 rfl (nI_1 i) (by decide) ?_
    refine xx_goto (tgt := 12) dX0_setDifference_63 (by decide) ?_
    refine xx_clv (lv2 := [(0, .ref b), (1, .ref x), (2, .ref b), (3, .int way), (4, .long (lz ((c + (((yy_pad E lex i : Nat) : Int) - ((yy_pad D len i : Nat) : Int))) / 2147483648))), (6, .int (nI lex)), (7, .int (nI (i + 1)))]) rfl ?_
    have r0 : 0 ≤ (c + (((yy_pad E lex i : Nat) : Int) - ((yy_pad D len i : Nat) : Int))) % 2147483648 := Int.emod_nonneg _ (by decide)
    have r1 : (c + (((yy_pad E lex i : Nat) : Int) - ((yy_pad D len i : Nat) : Int))) % 2147483648 < 2147483648 := Int.emod_lt_of_pos _ (by decide)
    refine ih (i + 1) (by omega) C (upd f1 i (nI ((c + (((yy_pad E lex i : Nat) : Int) - ((yy_pad D len i : Nat) : Int))) % 2147483648).toNat)) (fun j => if j = i then ((c + (((yy_pad E lex i : Nat) : Int) - ((yy_pad D len i : Nat) : Int))) % 2147483648).toNat else D1 j) _ (by omega) h1 (fun j hj => ?_) (fun j hj => ?_) (by omega) (by omega) ?_ (fun q hq => (o1 q hq).trans (hfr q hq))
    · rw [pk_un (by omega)]; exact ho j (by omega)
    · by_cases e : j = i
      · subst e; rw [pk_us]; exact ⟨by rw [if_pos rfl]; show _ < 2147483648; omega, by rw [if_pos rfl]⟩
      · rw [pk_un e, if_neg e]; exact hd j (by omega)
    · rw [yy_upd_eq, Nat.pow_succ]
      have h9 := yy_stz _ c ((yB ^ i : Nat) : Int) _ (((yy_pad E lex i : Nat) : Int) - ((yy_pad D len i : Nat) : Int)) ((c + (((yy_pad E lex i : Nat) : Int) - ((yy_pad D len i : Nat) : Int))) % 2147483648) ((c + (((yy_pad E lex i : Nat) : Int) - ((yy_pad D len i : Nat) : Int))) / 2147483648) 2147483648 hv (Int.emod_add_mul_ediv _ _)
      have h10 : ((((c + (((yy_pad E lex i : Nat) : Int) - ((yy_pad D len i : Nat) : Int))) % 2147483648).toNat : Nat) : Int) = (c + (((yy_pad E lex i : Nat) : Int) - ((yy_pad D len i : Nat) : Int))) % 2147483648 := Int.toNat_of_nonneg r0
      rw [Int.natCast_add, Int.natCast_mul, h10, Int.natCast_mul]
      show _ + _ * (((yB ^ i : Nat) : Int) * 2147483648) = ((yy_val yB (yy_pad E lex) i + (yy_pad E lex) i * yB ^ i : Nat) : Int) - ((yy_val yB (yy_pad D len) i + (yy_pad D len) i * yB ^ i : Nat) : Int)
      rw [h9, Int.natCast_add, Int.natCast_mul, Int.natCast_add, Int.natCast_mul, Int.sub_mul]
      omega
set_option maxRecDepth 100000 in
theorem c_X0_sd2 {G : xx_G} {l : Launch} {A : xx_H} {b x : Nat} {u v t : Int} {way : Int32} (hb : xx_bg A b u) (hx : xx_bg A x v) (n1 : x ≠ b) (n2 : x ≠ b + 1) (n3 : x + 1 ≠ b) (hge : u.natAbs ≤ v.natAbs) (ht : t.natAbs = v.natAbs - u.natAbs) (hw : t ≠ 0 → way = iz t.sign) : xx_X G l mX0_setDifference 1 0 0 0 (lv_args 0 [.ref b, .ref x, .ref b, .int way]) [] A (fun r B => r = .inl none ∧ B.1 = A.1 ∧ xx_bg B b t ∧ ∀ q, q ≠ b → q ≠ b + 1 → B.2 q = A.2 q) := by
  obtain ⟨f, len, hb, hf, g3⟩ := hb
  obtain ⟨g, lex, hx, hg, k3⟩ := hx
  have a1 := g3.lt
  have a2 := k3.lt
  have g4 := g3
  have k4 := k3
  obtain ⟨hl, D, hD, dD, eD⟩ := g3
  obtain ⟨hle, E, hE, dE, eE⟩ := k3
  have hll : len ≤ lex := by
    apply Nat.le_of_not_lt
    intro q
    have e : len = (len - 1) + 1 := by omega
    rw [e] at g4
    have h1 := g4.ge
    have h2 : yB ^ lex ≤ yB ^ (len - 1) := Nat.pow_le_pow_right (by decide) (by omega)
    omega
  refine xx_clv (lv2 := [(0, .ref b), (1, .ref x), (2, .ref b), (3, .int way)]) rfl ?_
  refine xx_lconst (v := 0) dX0_setDifference_0 (by decide) ?_
  refine xx_lstore dX0_setDifference_1 (by decide) ?_
  refine xx_clv (lv2 := [(0, .ref b), (1, .ref x), (2, .ref b), (3, .int way), (4, .long 0)]) rfl ?_
  refine xx_aload_n dX0_setDifference_3 rfl ?_
  refine xx_get xx_c0 dX0_setDifference_4 wf_X0_13 (j := 1) (by decide) hx rfl ?_
  refine xx_istore dX0_setDifference_7 (by decide) ?_
  refine xx_clv (lv2 := [(0, .ref b), (1, .ref x), (2, .ref b), (3, .int way), (4, .long 0), (6, .int (nI lex))]) rfl ?_
  refine xx_iconst (v := 0) dX0_setDifference_9 (by decide) ?_
  refine xx_istore dX0_setDifference_10 (by decide) ?_
  refine xx_clv (lv2 := [(0, .ref b), (1, .ref x), (2, .ref b), (3, .int way), (4, .long 0), (6, .int (nI lex)), (7, .int 0)]) rfl ?_
  refine xx_clv (lv2 := [(0, .ref b), (1, .ref x), (2, .ref b), (3, .int way), (4, .long (lz 0)), (6, .int (nI lex)), (7, .int (nI 0))]) rfl ?_
  refine l_X0_sd2 hb hf hx hg n1 n2 n3 hl hle hD hE (fun B f1 D1 c y1 y2 y3 y4 y5 y6 => ?_) lex 0 (by omega) A f D 0 rfl hf (fun j _ => rfl) (fun j hj => absurd hj (Nat.not_lt_zero j)) (by decide) (by decide) rfl (fun q _ => rfl)
  rw [yy_pad_val (Nat.le_refl _), yy_pad_val (hll), ← eE, ← eD] at y5
  have hlt := yy_val_lt (β := yB) (D := D1) (n := lex) (fun i hi => (y4 i hi).1)
  have hP : (0 : Int) < ((yB ^ lex : Nat) : Int) := by have := Nat.pow_pos (n := lex) (show 0 < yB by decide); omega
  have c0 : c = 0 := by
    have c1 : ¬ c ≤ -1 := fun q => by
      have : c * ((yB ^ lex : Nat) : Int) ≤ -1 * ((yB ^ lex : Nat) : Int) := Int.mul_le_mul_of_nonneg_right q (by omega)
      omega
    have c2 : ¬ 1 ≤ c := fun q => by
      have : 1 * ((yB ^ lex : Nat) : Int) ≤ c * ((yB ^ lex : Nat) : Int) := Int.mul_le_mul_of_nonneg_right q (by omega)
      omega
    omega
  rw [c0] at y5
  refine xx_aload_n dX0_setDifference_66 rfl ?_
  refine xx_iload dX0_setDifference_67 rfl ?_
  refine xx_iload_n dX0_setDifference_69 rfl ?_
  refine xx_callV (N := mX0_trim) (vs := [.int (nI lex), .int way]) (b := b) (rest := []) (d2 := 0) (c2 := 0) (s2 := 0) (c3 := 0) (s3 := 0) dX0_setDifference_70 wm_X0_28 wi_X0_trim wv_X0_trim (k := 0) rfl (by decide) y2 nX0_trim ⟨pX0_trim, Nat.le_of_ble_eq_true rfl, by decide, Nat.le_of_ble_eq_true rfl, by decide, by decide⟩ (c_trim y2 y3 hle y4 (by rw [ht]; omega) hw) (fun v2 C hC => ?_) (fun E C hC => absurd hC.1 (by simp))
  obtain ⟨hv, x1, x2, x3⟩ := hC
  cases hv
  refine xx_cst (st2 := []) rfl ?_
  exact xx_vret dX0_setDifference_73 rfl ⟨rfl, by omega, x2, fun q h1 h2 => (x3 q h1).trans (y6 q h2)⟩
set_option maxRecDepth 100000 in
theorem c_X0_addSigned {G : xx_G} {l : Launch} {A : xx_H} {b x : Nat} {u v : Int} (w : Int) (hb : xx_bg A b u) (hx : xx_bg A x v) (n1 : x ≠ b) (n2 : x ≠ b + 1) (n3 : x + 1 ≠ b) (hbd : u.natAbs + v.natAbs < yB ^ 14) (hw : w.natAbs = v.natAbs) : xx_X G l mX0_addSigned 2 0 0 0 (lv_args 0 [.ref b, .ref x, .int (iz w.sign)]) [] A (fun r B => r = .inl none ∧ B.1 = A.1 ∧ xx_bg B b (u + w) ∧ ∀ q, q ≠ b → q ≠ b + 1 → B.2 q = A.2 q) := by
  have hb0 := hb
  have hx0 := hx
  obtain ⟨f, len, hb, hf, g3⟩ := hb
  have su := yy_sgn u
  have sw := yy_sgn w
  refine xx_clv (lv2 := [(0, .ref b), (1, .ref x), (2, .int (iz w.sign))]) rfl ?_
  refine xx_iload_n dX0_addSigned_0 rfl ?_
  refine xx_if_ne (tgt := 5) dX0_addSigned_1 (by decide) (fun j1 => ?_) (fun j1 => ?_)
  · refine xx_aload_n dX0_addSigned_5 rfl ?_
    refine xx_get xx_c0 dX0_addSigned_6 wf_X0_7 (j := 0) (by decide) hb rfl ?_
    refine xx_if_eq (tgt := 20) dX0_addSigned_9 (by decide) (fun j9 => ?_) (fun j9 => ?_)
    · refine xx_aload_n dX0_addSigned_20 rfl ?_
      refine xx_aload_n dX0_addSigned_21 rfl ?_
      refine xx_iload_n dX0_addSigned_22 rfl ?_
      have key : (u + w).natAbs = u.natAbs + v.natAbs ∧ (u + w ≠ 0 → iz w.sign = iz (u + w).sign) := by
        rcases su with ⟨hu, eu⟩ | ⟨hu, eu⟩ | ⟨hu, eu⟩ <;> rcases sw with ⟨hw2, ew⟩ | ⟨hw2, ew⟩ | ⟨hw2, ew⟩ <;> rw [eu] at j9 <;> first
          | exact absurd j9 (by decide)
          | (exfalso; apply j1; rw [ew]; rfl)
          | (refine ⟨by omega, fun _ => ?_⟩; rw [ew, Int.sign_eq_one_of_pos (by omega)])
          | (refine ⟨by omega, fun _ => ?_⟩; rw [ew, Int.sign_eq_neg_one_of_neg (by omega)])
      refine xx_callV (N := mX0_addSizes) (vs := [.ref x, .int (iz w.sign)]) (b := b) (rest := []) (d2 := 1) (c2 := 0) (s2 := 0) (c3 := 0) (s3 := 0) dX0_addSigned_23 wm_X0_66 wi_X0_addSizes wv_X0_addSizes (k := 0) rfl (by decide) hb nX0_addSizes ⟨pX0_addSizes, Nat.le_of_ble_eq_true rfl, by decide, Nat.le_of_ble_eq_true rfl, by decide, by decide⟩ (c_X0_addSizes hb0 hx0 n1 n2 n3 hbd key.1 key.2) (fun v2 B hC => ?_) (fun E B hC => absurd hC.1 (by simp))
      obtain ⟨hv, y1, y2, y3⟩ := hC
      cases hv
      refine xx_cst (st2 := []) rfl ?_
      refine xx_goto (tgt := 57) dX0_addSigned_26 (by decide) ?_
      exact xx_vret dX0_addSigned_57 rfl ⟨rfl, y1, y2, y3⟩
    · refine xx_aload_n dX0_addSigned_12 rfl ?_
      refine xx_get xx_c0 dX0_addSigned_13 wf_X0_7 (j := 0) (by decide) hb rfl ?_
      refine xx_iload_n dX0_addSigned_16 rfl ?_
      refine xx_icmp_ne (tgt := 29) dX0_addSigned_17 (by decide) (fun j17 => ?_) (fun j17 => ?_)
      · refine xx_aload_n dX0_addSigned_29 rfl ?_
        refine xx_aload_n dX0_addSigned_30 rfl ?_
        refine xx_callV (N := mX0_compareSize) (vs := [.ref x]) (b := b) (rest := []) (d2 := 0) (c2 := 0) (s2 := 0) (c3 := 0) (s3 := 0) dX0_addSigned_31 wm_X0_56 wi_X0_compareSize wv_X0_compareSize (k := 0) rfl (by decide) hb nX0_compareSize ⟨pX0_compareSize, Nat.le_of_ble_eq_true rfl, by decide, Nat.le_of_ble_eq_true rfl, by decide, by decide⟩ (c_X0_compareSize hb0 hx0) (fun v2 B hC => ?_) (fun E B hC => absurd hC.1 (by simp))
        obtain ⟨hv, rfl⟩ := hC
        cases hv
        refine xx_cst (st2 := [.int (yy_cmp u.natAbs v.natAbs)]) rfl ?_
        refine xx_if_lt (tgt := 50) dX0_addSigned_34 (by decide) (fun j34 => ?_) (fun j34 => ?_)
        · refine xx_aload_n dX0_addSigned_50 rfl ?_
          refine xx_aload_n dX0_addSigned_51 rfl ?_
          refine xx_aload_n dX0_addSigned_52 rfl ?_
          refine xx_iload_n dX0_addSigned_53 rfl ?_
          have hcmp : u.natAbs ≤ v.natAbs := by
            apply Nat.le_of_not_lt; intro q
            exact absurd j34 (by unfold yy_cmp; rw [if_neg (by omega), if_neg (by omega)]; decide)
          have hne : u.natAbs ≠ v.natAbs := fun q => absurd j34 (by unfold yy_cmp; rw [if_neg (by omega), if_pos q]; decide)
          have key : (u + w).natAbs = v.natAbs - u.natAbs ∧ (u + w ≠ 0 → iz w.sign = iz (u + w).sign) := by
            rcases su with ⟨hu, eu⟩ | ⟨hu, eu⟩ | ⟨hu, eu⟩ <;> rcases sw with ⟨hw2, ew⟩ | ⟨hw2, ew⟩ | ⟨hw2, ew⟩ <;> first
              | (exfalso; apply j1; rw [ew]; rfl)
              | (exfalso; apply j9; rw [eu]; rfl)
              | (exfalso; apply j17; rw [eu, ew]; done)
              | (refine ⟨by omega, fun h0 => ?_⟩; rw [ew, Int.sign_eq_one_of_pos (by omega)]; done)
              | (refine ⟨by omega, fun h0 => ?_⟩; rw [ew, Int.sign_eq_neg_one_of_neg (by omega)]; done)
          refine xx_callV (N := mX0_setDifference) (vs := [.ref x, .ref b, .int (iz w.sign)]) (b := b) (rest := []) (d2 := 1) (c2 := 0) (s2 := 0) (c3 := 0) (s3 := 0) dX0_addSigned_54 wm_X0_69 wi_X0_setDifference wv_X0_setDifference (k := 0) rfl (by decide) hb nX0_setDifference ⟨pX0_setDifference, Nat.le_of_ble_eq_true rfl, by decide, Nat.le_of_ble_eq_true rfl, by decide, by decide⟩ (c_X0_sd2 hb0 hx0 n1 n2 n3 hcmp key.1 key.2) (fun v2 B hC => ?_) (fun E B hC => absurd hC.1 (by simp))
          obtain ⟨hv, y1, y2, y3⟩ := hC
          cases hv
          refine xx_cst (st2 := []) rfl ?_
          exact xx_vret dX0_addSigned_57 rfl ⟨rfl, y1, y2, y3⟩
        · refine xx_aload_n dX0_addSigned_37 rfl ?_
          refine xx_aload_n dX0_addSigned_38 rfl ?_
          refine xx_aload_n dX0_addSigned_39 rfl ?_
          refine xx_aload_n dX0_addSigned_40 rfl ?_
          refine xx_get xx_c0 dX0_addSigned_41 wf_X0_7 (j := 0) (by decide) hb rfl ?_
          have hcmp : v.natAbs ≤ u.natAbs := by
            apply Nat.le_of_not_lt; intro q
            exact j34 (by unfold yy_cmp; rw [if_pos q]; decide)
          have key : (u + w).natAbs = u.natAbs - v.natAbs ∧ (u + w ≠ 0 → iz u.sign = iz (u + w).sign) := by
            rcases su with ⟨hu, eu⟩ | ⟨hu, eu⟩ | ⟨hu, eu⟩ <;> rcases sw with ⟨hw2, ew⟩ | ⟨hw2, ew⟩ | ⟨hw2, ew⟩ <;> first
              | (exfalso; apply j1; rw [ew]; rfl)
              | (exfalso; apply j9; rw [eu]; rfl)
              | (exfalso; apply j17; rw [eu, ew]; done)
              | (refine ⟨by omega, fun h0 => ?_⟩; rw [eu, Int.sign_eq_one_of_pos (by omega)]; done)
              | (refine ⟨by omega, fun h0 => ?_⟩; rw [eu, Int.sign_eq_neg_one_of_neg (by omega)]; done)
          refine xx_callV (N := mX0_setDifference) (vs := [.ref b, .ref x, .int (iz u.sign)]) (b := b) (rest := []) (d2 := 1) (c2 := 0) (s2 := 0) (c3 := 0) (s3 := 0) dX0_addSigned_44 wm_X0_69 wi_X0_setDifference wv_X0_setDifference (k := 0) rfl (by decide) hb nX0_setDifference ⟨pX0_setDifference, Nat.le_of_ble_eq_true rfl, by decide, Nat.le_of_ble_eq_true rfl, by decide, by decide⟩ (c_X0_sd1 hb0 hx0 n1 n2 n3 hcmp key.1 key.2) (fun v2 B hC => ?_) (fun E B hC => absurd hC.1 (by simp))
          obtain ⟨hv, y1, y2, y3⟩ := hC
          cases hv
          refine xx_cst (st2 := []) rfl ?_
          refine xx_goto (tgt := 57) dX0_addSigned_47 (by decide) ?_
          exact xx_vret dX0_addSigned_57 rfl ⟨rfl, y1, y2, y3⟩
      · refine xx_aload_n dX0_addSigned_20 rfl ?_
        refine xx_aload_n dX0_addSigned_21 rfl ?_
        refine xx_iload_n dX0_addSigned_22 rfl ?_
        have key : (u + w).natAbs = u.natAbs + v.natAbs ∧ (u + w ≠ 0 → iz w.sign = iz (u + w).sign) := by
          rcases su with ⟨hu, eu⟩ | ⟨hu, eu⟩ | ⟨hu, eu⟩ <;> rcases sw with ⟨hw2, ew⟩ | ⟨hw2, ew⟩ | ⟨hw2, ew⟩ <;> rw [eu, ew] at j17 <;> first
            | exact absurd j17 (by decide)
            | (exfalso; apply j1; rw [ew]; rfl)
            | (refine ⟨by omega, fun _ => ?_⟩; rw [ew, Int.sign_eq_one_of_pos (by omega)])
            | (refine ⟨by omega, fun _ => ?_⟩; rw [ew, Int.sign_eq_neg_one_of_neg (by omega)])
        refine xx_callV (N := mX0_addSizes) (vs := [.ref x, .int (iz w.sign)]) (b := b) (rest := []) (d2 := 1) (c2 := 0) (s2 := 0) (c3 := 0) (s3 := 0) dX0_addSigned_23 wm_X0_66 wi_X0_addSizes wv_X0_addSizes (k := 0) rfl (by decide) hb nX0_addSizes ⟨pX0_addSizes, Nat.le_of_ble_eq_true rfl, by decide, Nat.le_of_ble_eq_true rfl, by decide, by decide⟩ (c_X0_addSizes hb0 hx0 n1 n2 n3 hbd key.1 key.2) (fun v2 B hC => ?_) (fun E B hC => absurd hC.1 (by simp))
        obtain ⟨hv, y1, y2, y3⟩ := hC
        cases hv
        refine xx_cst (st2 := []) rfl ?_
        refine xx_goto (tgt := 57) dX0_addSigned_26 (by decide) ?_
        exact xx_vret dX0_addSigned_57 rfl ⟨rfl, y1, y2, y3⟩
  · have w0 : w = 0 := by
      rcases sw with ⟨hw2, ew⟩ | ⟨hw2, ew⟩ | ⟨hw2, ew⟩
      · rw [ew] at j1; exact absurd j1 (by decide)
      · exact hw2
      · rw [ew] at j1; exact absurd j1 (by decide)
    exact xx_vret dX0_addSigned_4 rfl ⟨rfl, rfl, by rw [w0, Int.add_zero]; exact hb0, fun q _ _ => rfl⟩
set_option maxRecDepth 100000 in
theorem c_X0_add {G : xx_G} {l : Launch} {A : xx_H} {b x : Nat} {u v : Int} (hb : xx_bg A b u) (hx : xx_bg A x v) (n1 : x ≠ b) (n2 : x ≠ b + 1) (n3 : x + 1 ≠ b) (hbd : u.natAbs + v.natAbs < yB ^ 14) : xx_X G l mX0_add 3 0 0 0 (lv_args 0 [.ref b, .ref x]) [] A (fun r B => r = .inl none ∧ B.1 = A.1 ∧ xx_bg B b (u + v) ∧ ∀ q, q ≠ b → q ≠ b + 1 → B.2 q = A.2 q) := by
  have hb0 := hb
  have hx0 := hx
  obtain ⟨f, len, hb, hf, g3⟩ := hb
  obtain ⟨g, lex, hx, hg, k3⟩ := hx
  refine xx_clv (lv2 := [(0, .ref b), (1, .ref x)]) rfl ?_
  refine xx_aload_n dX0_add_0 rfl ?_
  refine xx_aload_n dX0_add_1 rfl ?_
  refine xx_aload_n dX0_add_2 rfl ?_
  refine xx_get xx_c0 dX0_add_3 wf_X0_7 (j := 0) (by decide) hx rfl ?_
  refine xx_callV (N := mX0_addSigned) (vs := [.ref x, .int (iz v.sign)]) (b := b) (rest := []) (d2 := 2) (c2 := 0) (s2 := 0) (c3 := 0) (s3 := 0) dX0_add_6 wm_X0_52 wi_X0_addSigned wv_X0_addSigned (k := 0) rfl (by decide) hb nX0_addSigned ⟨pX0_addSigned, Nat.le_of_ble_eq_true rfl, by decide, Nat.le_of_ble_eq_true rfl, by decide, by decide⟩ (c_X0_addSigned v hb0 hx0 n1 n2 n3 hbd (by omega)) (fun v2 B hC => ?_) (fun E B hC => absurd hC.1 (by simp))
  obtain ⟨hv, y1, y2, y3⟩ := hC
  cases hv
  refine xx_cst (st2 := []) rfl ?_
  exact xx_vret dX0_add_9 rfl ⟨rfl, y1, y2, y3⟩
set_option maxRecDepth 100000 in
theorem c_X0_subtract {G : xx_G} {l : Launch} {A : xx_H} {b x : Nat} {u v : Int} (hb : xx_bg A b u) (hx : xx_bg A x v) (n1 : x ≠ b) (n2 : x ≠ b + 1) (n3 : x + 1 ≠ b) (hbd : u.natAbs + v.natAbs < yB ^ 14) : xx_X G l mX0_subtract 3 0 0 0 (lv_args 0 [.ref b, .ref x]) [] A (fun r B => r = .inl none ∧ B.1 = A.1 ∧ xx_bg B b (u - v) ∧ ∀ q, q ≠ b → q ≠ b + 1 → B.2 q = A.2 q) := by
  have hb0 := hb
  have hx0 := hx
  obtain ⟨f, len, hb, hf, g3⟩ := hb
  obtain ⟨g, lex, hx, hg, k3⟩ := hx
  refine xx_clv (lv2 := [(0, .ref b), (1, .ref x)]) rfl ?_
  refine xx_aload_n dX0_subtract_0 rfl ?_
  refine xx_aload_n dX0_subtract_1 rfl ?_
  refine xx_aload_n dX0_subtract_2 rfl ?_
  refine xx_get xx_c0 dX0_subtract_3 wf_X0_7 (j := 0) (by decide) hx rfl ?_
  refine xx_ineg dX0_subtract_6 ?_
  refine xx_eqi (y := iz (-v).sign) (yy_sg_neg v) ?_
  refine xx_callV (N := mX0_addSigned) (vs := [.ref x, .int (iz (-v).sign)]) (b := b) (rest := []) (d2 := 2) (c2 := 0) (s2 := 0) (c3 := 0) (s3 := 0) dX0_subtract_7 wm_X0_52 wi_X0_addSigned wv_X0_addSigned (k := 0) rfl (by decide) hb nX0_addSigned ⟨pX0_addSigned, Nat.le_of_ble_eq_true rfl, by decide, Nat.le_of_ble_eq_true rfl, by decide, by decide⟩ (c_X0_addSigned (-v) hb0 hx0 n1 n2 n3 hbd (by omega)) (fun v2 B hC => ?_) (fun E B hC => absurd hC.1 (by simp))
  obtain ⟨hv, y1, y2, y3⟩ := hC
  cases hv
  refine xx_cst (st2 := []) rfl ?_
  exact xx_vret dX0_subtract_10 rfl ⟨rfl, y1, y2, y3⟩
