/-! ===== Divider: shiftUp, takeAway, putBack ===== -/
theorem yy_and31 {n : Nat} (h : n < 2 ^ 63) : lN n &&& 2147483647 = lN (n % 2147483648) := wb_mask (n := n) (k := 31) (by omega) (by decide)
theorem yy_and16 {n : Nat} (h : n < 2 ^ 63) : lN n &&& 65535 = lN (n % 65536) := wb_mask (n := n) (k := 16) (by omega) (by decide)
theorem yy_lshr {n k : Nat} (h : n < 2 ^ 63) (hk : k < 64) : lN n >>> ((nI k).toInt64 &&& 63) = lN (n / 2 ^ k) := by
  rw [wb_c k hk, lN_lz, lz_shr (by omega) (by omega) (lN k) k (by rw [wb_tb, wb_sm k hk, BitVec.toNat_ofNat, Nat.mod_eq_of_lt (by omega)])]
  have e3 : ((2 : Int) ^ k) = ((2 ^ k : Nat) : Int) := by simp
  rw [e3, lN_lz, Int.natCast_ediv]
theorem yy_lor {k a b : Nat} (ha : a < 2 ^ k) (h : a + b * 2 ^ k < 2 ^ 63) : lN a ||| lN (b * 2 ^ k) = lN (a + b * 2 ^ k) := by
  rw [wb_or (by omega) (by omega), Nat.or_comm, Nat.mul_comm b, ← Nat.two_pow_add_eq_or_of_lt ha, Nat.add_comm]
theorem yy_lor2 {k a b : Nat} (ha : a < 2 ^ k) (h : b * 2 ^ k + a < 2 ^ 63) : lN (b * 2 ^ k) ||| lN a = lN (b * 2 ^ k + a) := by
  rw [wb_or (by omega) (by omega), Nat.mul_comm b, ← Nat.two_pow_add_eq_or_of_lt ha]
/-- one digit told anew -/
def yy_ud (D : Nat → Nat) (i r : Nat) : Nat → Nat := fun j => if j = i then r else D j
theorem yy_ud_s {D : Nat → Nat} {i r : Nat} : yy_ud D i r i = r := if_pos rfl
theorem yy_ud_n {D : Nat → Nat} {i r j : Nat} (h : j ≠ i) : yy_ud D i r j = D j := if_neg h
theorem yy_ud_val {D : Nat → Nat} {i r β : Nat} : yy_val β (yy_ud D i r) (i + 1) = yy_val β D i + r * β ^ i := yy_upd_eq
theorem yy_ud_ok {D : Nat → Nat} {f : Nat → Int32} {i r n m : Nat} (hr : r < yB) (h : ∀ j, j < n → D j < yB ∧ f j = nI (D j)) (hm : m ≤ n + 1) (hi : m = n + 1 → i = n) : ∀ j, j < m → yy_ud D i r j < yB ∧ upd f i (nI r) j = nI (yy_ud D i r j) := by
  intro j hj
  by_cases e : j = i
  · subst e; rw [pk_us, yy_ud_s]; exact ⟨hr, rfl⟩
  · rw [pk_un e, yy_ud_n e]; exact h j (by omega)
set_option maxRecDepth 100000 in
theorem l_X1_su {G : xx_G} {l : Launch} {A : xx_H} {x r lx sh : Nat} {s0 : Value} {g f : Nat → Int32} {X : Nat → Nat} {Q : Option Value ⊕ String → xx_H → Prop} (hx : A.2 x = xx_o 0 [s0, .int (nI lx), .ref (x + 1)]) (hg : A.2 (x + 1) = xx_i 14 g) (hr : A.2 r = xx_i 15 f) (n1 : x ≠ r) (n2 : x + 1 ≠ r) (hl : lx ≤ 14) (hX : ∀ i, i < lx → X i < yB ∧ g i = nI (X i)) (hsh : sh ≤ 30) (k : ∀ (B : xx_H) (f1 : Nat → Int32) (R : Nat → Nat) (c : Nat), B.1 = A.1 → B.2 r = xx_i 15 f1 → (∀ j, j < lx → R j < yB ∧ f1 j = nI (R j)) → c < 2 ^ sh → yy_val yB R lx + c * yB ^ lx = yy_val yB X lx * 2 ^ sh → (∀ q, q ≠ r → B.2 q = A.2 q) → xx_X G l mX1_shiftUp 0 0 0 48 [(0, .ref x), (2, .ref r), (3, .long (lN c))] [] B Q) :
    ∀ (t i : Nat), i + t = lx → ∀ (B : xx_H) (f1 : Nat → Int32) (R : Nat → Nat) (c : Nat), B.1 = A.1 → B.2 r = xx_i 15 f1 → (∀ j, j < i → R j < yB ∧ f1 j = nI (R j)) → c < 2 ^ sh → yy_val yB R i + c * yB ^ i = yy_val yB X i * 2 ^ sh → (∀ q, q ≠ r → B.2 q = A.2 q) → xx_X G l mX1_shiftUp 0 0 0 5 [(0, .ref x), (1, .int (nI sh)), (2, .ref r), (3, .long (lN c)), (5, .int (nI i))] [] B Q := by
  intro t
  induction t with
  | zero =>
    intro i hi B f1 R c hz hf1 hd hc hv hfr
    have : i = lx := by omega
    subst this
    have hx2 := (hfr x n1).trans hx
    refine xx_iload dX1_shiftUp_5 rfl ?_
    refine xx_aload_n dX1_shiftUp_7 rfl ?_
    refine xx_get xx_c0 dX1_shiftUp_8 wf_X1_54 (j := 1) (by decide) hx2 rfl ?_
    refine xx_icmp_ge (tgt := 48) dX1_shiftUp_11 (by decide) (fun j11 => ?_) (fun h => absurd (Int32.le_refl _) h)
    refine xx_less [0, 2, 3] ?_
    refine xx_clv (lv2 := [(0, .ref x), (2, .ref r), (3, .long (lN c))]) rfl ?_
    exact k B f1 R c hz hf1 hd hc hv hfr
  | succ t ih =>
    intro i hi B f1 R c hz hf1 hd hc hv hfr
    have hx2 := (hfr x n1).trans hx
    have hg2 := (hfr (x + 1) n2).trans hg
    obtain ⟨p1, q1⟩ := hX i (by omega)
    have p1 : X i < 2147483648 := p1
    have hp30 : 2 ^ sh ≤ 2 ^ 30 := Nat.pow_le_pow_right (by decide) hsh
    have hp0 : 0 < 2 ^ sh := Nat.two_pow_pos sh
    have hpr : X i * 2 ^ sh ≤ 2147483647 * 2 ^ 30 := Nat.mul_le_mul (by omega) hp30
    have hdv : (c + X i * 2 ^ sh) / 2147483648 < 2 ^ sh := by
      apply Nat.div_lt_of_lt_mul
      have : (X i + 1) * 2 ^ sh ≤ 2147483648 * 2 ^ sh := Nat.mul_le_mul_right _ (by omega)
      rw [Nat.add_mul, Nat.one_mul] at this
      omega
    refine xx_iload dX1_shiftUp_5 rfl ?_
    refine xx_aload_n dX1_shiftUp_7 rfl ?_
    refine xx_get xx_c0 dX1_shiftUp_8 wf_X1_54 (j := 1) (by decide) hx2 rfl ?_
    refine xx_icmp_ge (tgt := 48) dX1_shiftUp_11 (by decide) (fun h => absurd h (nI_ge (by omega) (by omega))) (fun j11 => ?_)
    refine xx_lload_n dX1_shiftUp_14 rfl ?_
    refine xx_aload_n dX1_shiftUp_15 rfl ?_
    refine xx_get xx_c0 dX1_shiftUp_16 wf_X1_60 (j := 2) (by decide) hx2 rfl ?_
    refine xx_iload dX1_shiftUp_19 rfl ?_
    refine xx_iald dX1_shiftUp_21 hg2 (vp_in_nI (by omega) (by decide)) ?_
    refine xx_eqi (y := nI (X i)) (by rw [nI_clamp (by omega)]; exact q1) ?_
    refine xx_i2l dX1_shiftUp_22 ?_
    refine xx_eql (y := lN (X i)) (nI_l (by omega)) ?_
    refine xx_iload_n dX1_shiftUp_23 rfl ?_
    refine xx_lshl dX1_shiftUp_24 ?_
    refine xx_eql (y := lN ((X i) * 2 ^ sh)) (wb_shl (X i) (k := sh) (by omega)) ?_
    refine xx_lor dX1_shiftUp_25 ?_
    refine xx_eql (y := lN (c + X i * 2 ^ sh)) (yy_lor hc (by omega)) ?_
    refine xx_lstore_n dX1_shiftUp_26 (by decide) ?_
    refine xx_clv (lv2 := [(0, .ref x), (1, .int (nI sh)), (2, .ref r), (3, .long (lN (c + X i * 2 ^ sh))), (5, .int (nI i))]) rfl ?_
    refine xx_aload_n dX1_shiftUp_27 rfl ?_
    refine xx_iload dX1_shiftUp_28 rfl ?_
    refine xx_lload_n dX1_shiftUp_30 rfl ?_
    refine xx_ldc2 (v := 2147483647) dX1_shiftUp_31 wk_X1_103 ?_
    refine xx_land dX1_shiftUp_34 ?_
    refine xx_eql (y := lN ((c + X i * 2 ^ sh) % 2147483648)) (yy_and31 (by omega)) ?_
    refine xx_l2i dX1_shiftUp_35 ?_
    refine xx_eqi (y := nI ((c + X i * 2 ^ sh) % 2147483648)) (lN_i _) ?_
    refine xx_iast dX1_shiftUp_36 hf1 (vp_in_nI (by omega) (by decide)) (xx_gu fun C z1 h1 o1 => ?_)
    rw [nI_clamp (by omega)] at h1
    refine xx_lload_n dX1_shiftUp_37 rfl ?_
    refine xx_bipush (v := 31) dX1_shiftUp_38 (by decide) ?_
    refine xx_lshr dX1_shiftUp_40 ?_
    refine xx_eql (y := lN ((c + X i * 2 ^ sh) / 2147483648)) (hi31N (by omega)) ?_
    refine xx_lstore_n dX1_shiftUp_41 (by decide) ?_
    refine xx_clv (lv2 := [(0, .ref x), (1, .int (nI sh)), (2, .ref r), (3, .long (lN ((c + X i * 2 ^ sh) / 2147483648))), (5, .int (nI i))]) rfl ?_
    refine xx_iinc (v := nI (i + 1)) dX1_shiftUp_42 rfl (nI_1 i) (by decide) ?_
    refine xx_goto (tgt := 5) dX1_shiftUp_45 (by decide) ?_
    refine xx_clv (lv2 := [(0, .ref x), (1, .int (nI sh)), (2, .ref r), (3, .long (lN ((c + X i * 2 ^ sh) / 2147483648))), (5, .int (nI (i + 1)))]) rfl ?_
    refine ih (i + 1) (by omega) C (upd f1 i (nI ((c + X i * 2 ^ sh) % 2147483648))) (yy_ud R i ((c + X i * 2 ^ sh) % 2147483648)) _ (by omega) h1 (yy_ud_ok (Nat.mod_lt _ (by decide)) hd (Nat.le_refl _) (fun _ => rfl)) hdv ?_ (fun q hq => (o1 q hq).trans (hfr q hq))
    rw [yy_ud_val, Nat.pow_succ]
    have h9 := yy_stp _ c (yB ^ i) _ (X i * 2 ^ sh) ((c + X i * 2 ^ sh) % 2147483648) ((c + X i * 2 ^ sh) / 2147483648) 2147483648 hv (Nat.mod_add_div _ _)
    show _ + _ * (yB ^ i * 2147483648) = (yy_val yB X i + X i * yB ^ i) * 2 ^ sh
    rw [h9, Nat.add_mul]
    generalize yB ^ i = P; generalize 2 ^ sh = P2; grind
set_option maxRecDepth 100000 in
theorem c_X1_shiftUp {G : xx_G} {l : Launch} {A : xx_H} {x r lx sh : Nat} {s0 : Value} {g f : Nat → Int32} {X : Nat → Nat} (hx : A.2 x = xx_o 0 [s0, .int (nI lx), .ref (x + 1)]) (hg : A.2 (x + 1) = xx_i 14 g) (hr : A.2 r = xx_i 15 f) (n1 : x ≠ r) (n2 : x + 1 ≠ r) (hl : lx ≤ 14) (hX : ∀ i, i < lx → X i < yB ∧ g i = nI (X i)) (hsh : sh ≤ 30) : xx_X G l mX1_shiftUp 0 0 0 0 (lv_args 0 [.ref x, .int (nI sh), .ref r]) [] A (fun q B => q = .inl none ∧ B.1 = A.1 ∧ (∃ f1 R, B.2 r = xx_i 15 f1 ∧ (∀ j, j < lx + 1 → R j < yB ∧ f1 j = nI (R j)) ∧ R lx < 2 ^ sh ∧ yy_val yB R (lx + 1) = yy_val yB X lx * 2 ^ sh) ∧ ∀ q, q ≠ r → B.2 q = A.2 q) := by
  refine xx_clv (lv2 := [(0, .ref x), (1, .int (nI sh)), (2, .ref r)]) rfl ?_
  refine xx_lconst (v := 0) dX1_shiftUp_0 (by decide) ?_
  refine xx_lstore_n dX1_shiftUp_1 (by decide) ?_
  refine xx_clv (lv2 := [(0, .ref x), (1, .int (nI sh)), (2, .ref r), (3, .long 0)]) rfl ?_
  refine xx_iconst (v := 0) dX1_shiftUp_2 (by decide) ?_
  refine xx_istore dX1_shiftUp_3 (by decide) ?_
  refine xx_clv (lv2 := [(0, .ref x), (1, .int (nI sh)), (2, .ref r), (3, .long 0), (5, .int 0)]) rfl ?_
  refine xx_clv (lv2 := [(0, .ref x), (1, .int (nI sh)), (2, .ref r), (3, .long (lN 0)), (5, .int (nI 0))]) rfl ?_
  refine l_X1_su hx hg hr n1 n2 hl hX hsh (fun B f1 R c y1 y2 y3 y4 y5 y6 => ?_) lx 0 (by omega) A f (fun _ => 0) 0 rfl hr (fun j hj => absurd hj (Nat.not_lt_zero j)) (Nat.two_pow_pos sh) (by show 0 + 0 * _ = 0 * _; omega) (fun q _ => rfl)
  have hx2 := (y6 x n1).trans hx
  have hp30 : 2 ^ sh ≤ 2 ^ 30 := Nat.pow_le_pow_right (by decide) hsh
  refine xx_aload_n dX1_shiftUp_48 rfl ?_
  refine xx_aload_n dX1_shiftUp_49 rfl ?_
  refine xx_get xx_c0 dX1_shiftUp_50 wf_X1_54 (j := 1) (by decide) hx2 rfl ?_
  refine xx_lload_n dX1_shiftUp_53 rfl ?_
  refine xx_l2i dX1_shiftUp_54 ?_
  refine xx_eqi (y := nI c) (lN_i _) ?_
  refine xx_iast dX1_shiftUp_55 y2 (vp_in_nI (by omega) (by decide)) (xx_gu fun C z1 h1 o1 => ?_)
  rw [nI_clamp (by omega)] at h1
  exact xx_vret dX1_shiftUp_56 rfl ⟨rfl, by omega, ⟨_, yy_ud R lx c, h1, yy_ud_ok (by show c < 2147483648; omega) y3 (Nat.le_refl _) (fun _ => rfl), by rw [yy_ud_s]; exact y4, by rw [yy_ud_val]; exact y5⟩, fun q hq => (o1 q hq).trans (y6 q hq)⟩
