/-! ===== Big: addSizes, setDifference, add, subtract ===== -/
theorem lo31N (n : Nat) : (lN n &&& 2147483647).toInt32 = nI (n % yB) := by
  rw [lN_lz, lz_lo31]
  congr 1
theorem hi31N {n : Nat} (h : n < 2 ^ 63) : lN n >>> ((31 : Int32).toInt64 &&& 63) = lN (n / yB) := by
  rw [lN_lz, lz_hi31 (by omega) (by omega)]
  show lz ((n : Int) / 2147483648) = lz (((n / 2147483648 : Nat)) : Int)
  rw [Int.natCast_ediv]
  rfl
theorem yy_stp (va c P w s r q β : Nat) (h : va + c * P = w) (hz : r + β * q = c + s) : va + r * P + q * (P * β) = w + s * P := by grind
theorem yy_stz (va c P w s r q β : Int) (h : va + c * P = w) (hz : r + β * q = c + s) : va + r * P + q * (P * β) = w + s * P := by grind
theorem yy_upd_eq {D : Nat → Nat} {i r : Nat} {β : Nat} : yy_val β (fun j => if j = i then r else D j) (i + 1) = yy_val β D i + r * β ^ i := by
  show yy_val β _ i + (if i = i then r else D i) * β ^ i = _
  rw [if_pos rfl, yy_val_ext (fun j hj => if_neg (by omega))]
theorem yy_lbp {f : Nat → Int32} {D : Nat → Nat} {len i : Nat} (h : ∀ j, j < len → D j < yB ∧ f j = nI (D j)) : yy_lb f len i = nI (yy_pad D len i) := by
  unfold yy_lb yy_pad
  split
  · rename_i q; exact (h i q).2
  · rfl
theorem yy_padlt {f : Nat → Int32} {D : Nat → Nat} {len : Nat} (h : ∀ j, j < len → D j < yB ∧ f j = nI (D j)) (i : Nat) : yy_pad D len i < yB := by
  unfold yy_pad
  split
  · rename_i q; exact (h i q).1
  · decide
theorem xx_mth0min : xx_mth RX0 32 Lib.Math.min.name Lib.Math.min.code 2 := ⟨wm_X0_32, wq_s_min, wq_z, wq_c_min⟩
theorem xx_mth0max : xx_mth RX0 73 Lib.Math.max.name Lib.Math.max.code 2 := ⟨wm_X0_73, wq_s_max, wq_z, wq_c_max⟩
def yy_max (a b : Nat) : Nat := if a < b then b else a
def yy_min (a b : Nat) : Nat := if b < a then b else a
theorem nI_max {a b : Nat} (ha : a < 2 ^ 31) (hb : b < 2 ^ 31) : (if nI a < nI b then nI b else nI a) = nI (yy_max a b) := by
  unfold yy_max
  by_cases h : a < b
  · rw [if_pos h, if_pos ((nI_ltI ha hb).mpr h)]
  · rw [if_neg h, if_neg (fun q => h ((nI_ltI ha hb).mp q))]
theorem nI_min {a b : Nat} (ha : a < 2 ^ 31) (hb : b < 2 ^ 31) : (if nI b < nI a then nI b else nI a) = nI (yy_min a b) := by
  unfold yy_min
  by_cases h : b < a
  · rw [if_pos h, if_pos ((nI_ltI hb ha).mpr h)]
  · rw [if_neg h, if_neg (fun q => h ((nI_ltI hb ha).mp q))]
set_option maxRecDepth 100000 in
theorem l_X0_as {G : xx_G} {l : Launch} {A : xx_H} {b x len lex T : Nat} {s0 s1 : Value} {way : Int32} {f g : Nat → Int32} {D E : Nat → Nat} {Q : Option Value ⊕ String → xx_H → Prop} (hb : A.2 b = xx_o 0 [s0, .int (nI len), .ref (b + 1)]) (hf : A.2 (b + 1) = xx_i 14 f) (hx : A.2 x = xx_o 0 [s1, .int (nI lex), .ref (x + 1)]) (hg : A.2 (x + 1) = xx_i 14 g) (n1 : x ≠ b) (n2 : x ≠ b + 1) (n3 : x + 1 ≠ b) (hl : len ≤ 14) (hle : lex ≤ 14) (hD : ∀ i, i < len → D i < yB ∧ f i = nI (D i)) (hE : ∀ i, i < lex → E i < yB ∧ g i = nI (E i)) (hT : T ≤ 14) (k : ∀ (B : xx_H) (f1 : Nat → Int32) (D1 : Nat → Nat) (c : Nat), B.1 = A.1 → B.2 b = xx_o 0 [s0, .int (nI len), .ref (b + 1)] → B.2 (b + 1) = xx_i 14 f1 → (∀ j, j < T → D1 j < yB ∧ f1 j = nI (D1 j)) → yy_val yB D1 T + c * yB ^ T = yy_val yB (yy_pad D len) T + yy_val yB (yy_pad E lex) T → (∀ q, q ≠ b + 1 → B.2 q = A.2 q) → xx_X G l mX0_addSizes 1 0 0 74 [(0, .ref b), (2, .int way), (5, .int (nI T))] [] B Q) :
    ∀ (r i : Nat), i + r = T → ∀ (B : xx_H) (f1 : Nat → Int32) (D1 : Nat → Nat) (c : Nat), B.1 = A.1 → B.2 (b + 1) = xx_i 14 f1 → (∀ j, i ≤ j → f1 j = f j) → (∀ j, j < i → D1 j < yB ∧ f1 j = nI (D1 j)) → c ≤ 1 → yy_val yB D1 i + c * yB ^ i = yy_val yB (yy_pad D len) i + yy_val yB (yy_pad E lex) i → (∀ q, q ≠ b + 1 → B.2 q = A.2 q) → xx_X G l mX0_addSizes 1 0 0 25 [(0, .ref b), (1, .ref x), (2, .int way), (3, .long (lN c)), (5, .int (nI T)), (6, .int (nI i))] [] B Q := by
  intro r
  induction r with
  | zero =>
    intro i hi B f1 D1 c hz hf1 ho hd hc hv hfr
    have : i = T := by omega
    subst this
    have hb2 := (hfr b (by omega)).trans hb
    refine xx_iload dX0_addSizes_25 rfl ?_
    refine xx_iload dX0_addSizes_27 rfl ?_
    refine xx_icmp_ge (tgt := 74) dX0_addSizes_29 (by decide) (fun j29 => ?_) (fun h => absurd (Int32.le_refl _) h)
    refine xx_less [0, 2, 5] ?_
    refine xx_clv (lv2 := [(0, .ref b), (2, .int way), (5, .int (nI i))]) rfl ?_
    exact k B f1 D1 c hz hb2 hf1 hd hv hfr
  | succ r ih =>
    intro i hi B f1 D1 c hz hf1 ho hd hc hv hfr
    have hb2 := (hfr b (by omega)).trans hb
    have hx2 := (hfr x (by omega)).trans hx
    have hg2 := (hfr (x + 1) (by omega)).trans hg
    have p1 : yy_pad D len i < 2147483648 := yy_padlt hD i
    have p2 : yy_pad E lex i < 2147483648 := yy_padlt hE i
    have q1 : yy_lb f1 len i = nI (yy_pad D len i) := by
      rw [← yy_lbp hD]; unfold yy_lb; rw [ho i (Nat.le_refl i)]
    have q2 : yy_lb g lex i = nI (yy_pad E lex i) := yy_lbp hE
    refine xx_iload dX0_addSizes_25 rfl ?_
    refine xx_iload dX0_addSizes_27 rfl ?_
    refine xx_icmp_ge (tgt := 74) dX0_addSizes_29 (by decide) (fun h => absurd h (nI_ge (by omega) (by omega))) (fun j29 => ?_)
    refine xx_lload_n dX0_addSizes_32 rfl ?_
    refine xx_aload_n dX0_addSizes_33 rfl ?_
    refine xx_iload dX0_addSizes_34 rfl ?_
    refine xx_callV (N := mX0_limb) (vs := [.int (nI i)]) (b := b) (rest := [.long (lN c)]) (d2 := 0) (c2 := 0) (s2 := 0) (c3 := 0) (s3 := 0) dX0_addSizes_36 wm_X0_76 wi_X0_limb wv_X0_limb (k := 0) rfl (by decide) hb2 nX0_limb ⟨pX0_limb, Nat.le_of_ble_eq_true rfl, by decide, Nat.le_of_ble_eq_true rfl, by decide, by decide⟩ (c_X0_limb hb2 hf1 hl (by omega)) (fun v2 B2 hC => ?_) (fun E B2 hC => absurd hC.1 (by simp))
    obtain ⟨hv, rfl⟩ := hC
    cases hv
    refine xx_cst (st2 := [.int (nI (yy_pad D len i)), .long (lN c)]) (by rw [q1]; rfl) ?_
    refine xx_i2l dX0_addSizes_39 ?_
    refine xx_eql (y := lN (yy_pad D len i)) (nI_l (by omega)) ?_
    refine xx_aload_n dX0_addSizes_40 rfl ?_
    refine xx_iload dX0_addSizes_41 rfl ?_
    refine xx_callV (N := mX0_limb) (vs := [.int (nI i)]) (b := x) (rest := [.long (lN (yy_pad D len i)), .long (lN c)]) (d2 := 0) (c2 := 0) (s2 := 0) (c3 := 0) (s3 := 0) dX0_addSizes_43 wm_X0_76 wi_X0_limb wv_X0_limb (k := 0) rfl (by decide) hx2 nX0_limb ⟨pX0_limb, Nat.le_of_ble_eq_true rfl, by decide, Nat.le_of_ble_eq_true rfl, by decide, by decide⟩ (c_X0_limb hx2 hg2 hle (by omega)) (fun v2 B2 hC => ?_) (fun E B2 hC => absurd hC.1 (by simp))
    obtain ⟨hv, rfl⟩ := hC
    cases hv
    refine xx_cst (st2 := [.int (nI (yy_pad E lex i)), .long (lN (yy_pad D len i)), .long (lN c)]) (by rw [q2]; rfl) ?_
    refine xx_i2l dX0_addSizes_46 ?_
    refine xx_eql (y := lN (yy_pad E lex i)) (nI_l (by omega)) ?_
    refine xx_ladd dX0_addSizes_47 ?_
    refine xx_ladd dX0_addSizes_48 ?_
    refine xx_eql (y := lN (c + (yy_pad D len i + yy_pad E lex i))) (by rw [lN_add, lN_add]) ?_
    refine xx_lstore_n dX0_addSizes_49 (by decide) ?_
    refine xx_clv (lv2 := [(0, .ref b), (1, .ref x), (2, .int way), (3, .long (lN (c + (yy_pad D len i + yy_pad E lex i)))), (5, .int (nI T)), (6, .int (nI i))]) rfl ?_
    refine xx_aload_n dX0_addSizes_50 rfl ?_
    refine xx_get xx_c0 dX0_addSizes_51 wf_X0_16 (j := 2) (by decide) hb2 rfl ?_
    refine xx_iload dX0_addSizes_54 rfl ?_
    refine xx_lload_n dX0_addSizes_56 rfl ?_
    refine xx_ldc2 (v := 2147483647) dX0_addSizes_57 wk_X0_26 ?_
    refine xx_land dX0_addSizes_60 ?_
    refine xx_l2i dX0_addSizes_61 ?_
    refine xx_eqi (y := nI ((c + (yy_pad D len i + yy_pad E lex i)) % yB)) (lo31N _) ?_
    refine xx_iast dX0_addSizes_62 hf1 (vp_in_nI (by omega) (by decide)) (xx_gu fun C z1 h1 o1 => ?_)
    rw [nI_clamp (by omega)] at h1
    refine xx_lload_n dX0_addSizes_63 rfl ?_
    refine xx_bipush (v := 31) dX0_addSizes_64 (by decide) ?_
    refine xx_lshr dX0_addSizes_66 ?_
    refine xx_eql (y := lN ((c + (yy_pad D len i + yy_pad E lex i)) / yB)) (hi31N (by omega)) ?_
    refine xx_lstore_n dX0_addSizes_67 (by decide) ?_
    refine xx_clv (lv2 := [(0, .ref b), (1, .ref x), (2, .int way), (3, .long (lN ((c + (yy_pad D len i + yy_pad E lex i)) / yB))), (5, .int (nI T)), (6, .int (nI i))]) rfl ?_
    refine xx_iinc (v := nI (i + 1)) dX0_addSizes_68 rfl (nI_1 i) (by decide) ?_
    refine xx_goto (tgt := 25) dX0_addSizes_71 (by decide) ?_
    refine xx_clv (lv2 := [(0, .ref b), (1, .ref x), (2, .int way), (3, .long (lN ((c + (yy_pad D len i + yy_pad E lex i)) / yB))), (5, .int (nI T)), (6, .int (nI (i + 1)))]) rfl ?_
    refine ih (i + 1) (by omega) C (upd f1 i (nI ((c + (yy_pad D len i + yy_pad E lex i)) % yB))) (fun j => if j = i then (c + (yy_pad D len i + yy_pad E lex i)) % yB else D1 j) _ (by omega) h1 (fun j hj => ?_) (fun j hj => ?_) ?_ ?_ (fun q hq => (o1 q hq).trans (hfr q hq))
    · rw [pk_un (by omega)]; exact ho j (by omega)
    · by_cases e : j = i
      · subst e; rw [pk_us]; exact ⟨by rw [if_pos rfl]; exact Nat.mod_lt _ (by decide), by rw [if_pos rfl]⟩
      · rw [pk_un e, if_neg e]; exact hd j (by omega)
    · have e9 : (c + (yy_pad D len i + yy_pad E lex i)) / yB < 2 := Nat.div_lt_of_lt_mul (by show _ < 2147483648 * 2; omega)
      omega
    · rw [yy_upd_eq, Nat.pow_succ]
      have h9 := yy_stp _ c (yB ^ i) _ (yy_pad D len i + yy_pad E lex i) ((c + (yy_pad D len i + yy_pad E lex i)) % yB) ((c + (yy_pad D len i + yy_pad E lex i)) / yB) yB hv (Nat.mod_add_div _ _)
      rw [h9, Nat.add_mul]
      show _ = (yy_val yB (yy_pad D len) i + yy_pad D len i * yB ^ i) + (yy_val yB (yy_pad E lex) i + yy_pad E lex i * yB ^ i)
      omega
set_option maxRecDepth 100000 in
theorem c_X0_addSizes {G : xx_G} {l : Launch} {A : xx_H} {b x : Nat} {u v t : Int} {way : Int32} (hb : xx_bg A b u) (hx : xx_bg A x v) (n1 : x ≠ b) (n2 : x ≠ b + 1) (n3 : x + 1 ≠ b) (hbd : u.natAbs + v.natAbs < yB ^ 14) (ht : t.natAbs = u.natAbs + v.natAbs) (hw : t ≠ 0 → way = iz t.sign) : xx_X G l mX0_addSizes 1 0 0 0 (lv_args 0 [.ref b, .ref x, .int way]) [] A (fun r B => r = .inl none ∧ B.1 = A.1 ∧ xx_bg B b t ∧ ∀ q, q ≠ b → q ≠ b + 1 → B.2 q = A.2 q) := by
  obtain ⟨f, len, hb, hf, g3⟩ := hb
  obtain ⟨g, lex, hx, hg, k3⟩ := hx
  have a1 := g3.lt
  have a2 := k3.lt
  obtain ⟨hl, D, hD, dD, eD⟩ := g3
  obtain ⟨hle, E, hE, dE, eE⟩ := k3
  have hM : yy_max len lex ≤ 14 ∧ len ≤ yy_max len lex ∧ lex ≤ yy_max len lex := by unfold yy_max; split <;> omega
  refine xx_clv (lv2 := [(0, .ref b), (1, .ref x), (2, .int way)]) rfl ?_
  refine xx_lconst (v := 0) dX0_addSizes_0 (by decide) ?_
  refine xx_lstore_n dX0_addSizes_1 (by decide) ?_
  refine xx_clv (lv2 := [(0, .ref b), (1, .ref x), (2, .int way), (3, .long 0)]) rfl ?_
  refine xx_bipush (v := 14) dX0_addSizes_2 (by decide) ?_
  refine xx_aload_n dX0_addSizes_4 rfl ?_
  refine xx_get xx_c0 dX0_addSizes_5 wf_X0_13 (j := 1) (by decide) hb rfl ?_
  refine xx_aload_n dX0_addSizes_8 rfl ?_
  refine xx_get xx_c0 dX0_addSizes_9 wf_X0_13 (j := 1) (by decide) hx rfl ?_
  refine xx_mmax dX0_addSizes_12 xx_mth0max (by decide) (Nat.le_of_ble_eq_true rfl) ?_
  refine xx_eqi (y := nI (yy_max len lex)) (nI_max (by omega) (by omega)) ?_
  refine xx_iconst (v := 1) dX0_addSizes_15 (by decide) ?_
  refine xx_iadd dX0_addSizes_16 ?_
  refine xx_eqi (y := nI (yy_max len lex + 1)) (nI_1 _) ?_
  refine xx_mmin dX0_addSizes_17 xx_mth0min (by decide) (Nat.le_of_ble_eq_true rfl) ?_
  refine xx_eqi (y := nI (yy_min 14 (yy_max len lex + 1))) (nI_min (a := 14) (by omega) (by omega)) ?_
  refine xx_istore dX0_addSizes_20 (by decide) ?_
  refine xx_clv (lv2 := [(0, .ref b), (1, .ref x), (2, .int way), (3, .long 0), (5, .int (nI (yy_min 14 (yy_max len lex + 1))))]) rfl ?_
  refine xx_iconst (v := 0) dX0_addSizes_22 (by decide) ?_
  refine xx_istore dX0_addSizes_23 (by decide) ?_
  refine xx_clv (lv2 := [(0, .ref b), (1, .ref x), (2, .int way), (3, .long 0), (5, .int (nI (yy_min 14 (yy_max len lex + 1)))), (6, .int 0)]) rfl ?_
  have hT : yy_min 14 (yy_max len lex + 1) ≤ 14 ∧ len ≤ yy_min 14 (yy_max len lex + 1) ∧ lex ≤ yy_min 14 (yy_max len lex + 1) ∧ (yy_min 14 (yy_max len lex + 1) = 14 ∨ yy_min 14 (yy_max len lex + 1) = yy_max len lex + 1) := by unfold yy_min; split <;> omega
  generalize yy_min 14 (yy_max len lex + 1) = T at hT ⊢
  have hsum : u.natAbs + v.natAbs < yB ^ T := by
    rcases hT.2.2.2 with e | e
    · rw [e]; exact hbd
    · rw [e, Nat.pow_succ]
      have b1 : yB ^ len ≤ yB ^ yy_max len lex := Nat.pow_le_pow_right (by decide) hM.2.1
      have b2 : yB ^ lex ≤ yB ^ yy_max len lex := Nat.pow_le_pow_right (by decide) hM.2.2
      have b3 : yB ^ yy_max len lex * 2 ≤ yB ^ yy_max len lex * yB := Nat.mul_le_mul_left _ (by decide)
      omega
  refine xx_clv (lv2 := [(0, .ref b), (1, .ref x), (2, .int way), (3, .long (lN 0)), (5, .int (nI T)), (6, .int (nI 0))]) rfl ?_
  refine l_X0_as hb hf hx hg n1 n2 n3 hl hle hD hE hT.1 (fun B f1 D1 c y1 y2 y3 y4 y5 y6 => ?_) T 0 (by omega) A f D 0 rfl hf (fun j _ => rfl) (fun j hj => absurd hj (Nat.not_lt_zero j)) (by omega) rfl (fun q _ => rfl)
  rw [yy_pad_val hT.2.1, yy_pad_val hT.2.2.1, ← eD, ← eE] at y5
  have c0 : c = 0 := by
    apply Nat.eq_zero_of_not_pos
    intro q
    have : 1 * yB ^ T ≤ c * yB ^ T := Nat.mul_le_mul_right _ q
    omega
  rw [c0] at y5
  refine xx_aload_n dX0_addSizes_74 rfl ?_
  refine xx_iload dX0_addSizes_75 rfl ?_
  refine xx_iload_n dX0_addSizes_77 rfl ?_
  refine xx_callV (N := mX0_trim) (vs := [.int (nI T), .int way]) (b := b) (rest := []) (d2 := 0) (c2 := 0) (s2 := 0) (c3 := 0) (s3 := 0) dX0_addSizes_78 wm_X0_28 wi_X0_trim wv_X0_trim (k := 0) rfl (by decide) y2 nX0_trim ⟨pX0_trim, Nat.le_of_ble_eq_true rfl, by decide, Nat.le_of_ble_eq_true rfl, by decide, by decide⟩ (c_trim y2 y3 hT.1 y4 (by rw [ht]; omega) hw) (fun v2 C hC => ?_) (fun E C hC => absurd hC.1 (by simp))
  obtain ⟨hv, x1, x2, x3⟩ := hC
  cases hv
  refine xx_cst (st2 := []) rfl ?_
  exact xx_vret dX0_addSizes_81 rfl ⟨rfl, by omega, x2, fun q h1 h2 => (x3 q h1).trans (y6 q h2)⟩
