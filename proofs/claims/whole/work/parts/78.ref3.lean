/-! ===== the reference's numbers: times ===== -/
theorem yy_tin {R R0 P β cr cr2 r x Yv Yk Bi Bk v d : Nat} (hP : P = Bi * Bk) (h : R + cr * P = R0 + x * Bi * Yv) (hv : v = x * Yk + d + cr) (hr : r + β * cr2 = v) : R + r * P + cr2 * (P * β) = R0 + d * P + x * Bi * (Yv + Yk * Bk) := by
  have e : (r + β * cr2) * P = (x * Yk + d + cr) * P := by rw [hr, hv]
  subst hP
  grind
theorem yy_lp {D : Nat → Nat} {len p : Nat} (h : 0 < len → D (len - 1) ≠ 0) (hb : yy_val 65536 D len < 65536 ^ p) : len ≤ p := by
  apply Nat.le_of_not_lt
  intro q
  obtain ⟨k, rfl⟩ : ∃ k, len = k + 1 := ⟨len - 1, by omega⟩
  have a := yy_val_top (β := 65536) (D := D) (n := k) (h (by omega))
  have b : 65536 ^ p ≤ 65536 ^ k := Nat.pow_le_pow_right (by decide) (by omega)
  omega
theorem yy_val0 {β : Nat} {R : Nat → Nat} (h : ∀ j, R j = 0) : ∀ n, yy_val β R n = 0
  | 0 => rfl
  | n + 1 => by
    have e : yy_val β R (n + 1) = yy_val β R n + R n * β ^ n := rfl
    rw [e, yy_val0 h n, h n, Nat.zero_mul]
set_option maxRecDepth 100000 in
theorem l_X9_tz {G : xx_G} {l : Launch} {A : xx_H} {b : Nat} {u0 : Value} {us : List Value} {x y c M : Nat} {f : Nat → Int32} {Q : Option Value ⊕ String → xx_H → Prop} (hb : A.2 b = xx_o 9 (u0 :: .ref (b + 1) :: .ref (b + 2) :: .ref (b + 3) :: us)) (hc : c < 1740) (hM : M ≤ 40) (k : ∀ (B : xx_H) (f1 : Nat → Int32), B.1 = A.1 → B.2 (b + 1) = xx_i 69600 f1 → (∀ j, j < M → f1 (40 * c + j) = nI 0) → (∀ j, j < 40 * c ∨ 40 * c + 40 ≤ j → f1 j = f j) → (∀ q, q ≠ b + 1 → B.2 q = A.2 q) → xx_X G l mX9_times 1 0 0 44 [(0, .ref b), (1, .int (nI x)), (2, .int (nI y)), (3, .int (nI c)), (4, .int (nI M))] [] B Q) :
    ∀ (t i : Nat), i + t = M → ∀ (B : xx_H) (f1 : Nat → Int32), B.1 = A.1 → B.2 (b + 1) = xx_i 69600 f1 → (∀ j, j < i → f1 (40 * c + j) = nI 0) → (∀ j, j < 40 * c ∨ 40 * c + 40 ≤ j → f1 j = f j) → (∀ q, q ≠ b + 1 → B.2 q = A.2 q) → xx_X G l mX9_times 1 0 0 18 [(0, .ref b), (1, .int (nI x)), (2, .int (nI y)), (3, .int (nI c)), (4, .int (nI M)), (5, .int (nI i))] [] B Q := by
  intro t
  induction t with
  | zero =>
    intro i hi B f1 y1 y2 y3 y4 y5
    have : i = M := by omega
    subst this
    refine xx_iload dX9_times_18 rfl ?_
    refine xx_iload dX9_times_20 rfl ?_
    refine xx_icmp_ge (tgt := 44) dX9_times_22 (by decide) (fun j22 => ?_) (fun h => absurd (Int32.le_refl _) h)
    refine xx_less [0, 1, 2, 3, 4] ?_
    refine xx_clv (lv2 := [(0, .ref b), (1, .int (nI x)), (2, .int (nI y)), (3, .int (nI c)), (4, .int (nI i))]) rfl ?_
    exact k B f1 y1 y2 y3 y4 y5
  | succ t ih =>
    intro i hi B f1 y1 y2 y3 y4 y5
    have hb2 := (y5 b (by omega)).trans hb
    refine xx_iload dX9_times_18 rfl ?_
    refine xx_iload dX9_times_20 rfl ?_
    refine xx_icmp_ge (tgt := 44) dX9_times_22 (by decide) (fun h => absurd h (nI_ge (by omega) (by omega))) (fun j22 => ?_)
    refine xx_aload_n dX9_times_25 rfl ?_
    refine xx_get xx_c9 dX9_times_26 wf_X9_8 (j := 1) (by decide) hb2 rfl ?_
    refine xx_bipush (v := 40) dX9_times_29 (by decide) ?_
    refine xx_iload_n dX9_times_31 rfl ?_
    refine xx_imul dX9_times_32 ?_
    refine xx_eqi (y := nI (40 * c)) (pk_mul 40 c) ?_
    refine xx_iload dX9_times_33 rfl ?_
    refine xx_iadd dX9_times_35 ?_
    refine xx_eqi (y := nI (40 * c + i)) (nI_add (40 * c) i) ?_
    refine xx_iconst (v := 0) dX9_times_36 (by decide) ?_
    refine xx_iast dX9_times_37 y2 (vp_in_nI (by omega) (by decide)) (xx_gu fun C z1 h1 o1 => ?_)
    rw [nI_clamp (by omega)] at h1
    refine xx_iinc (v := nI (i + 1)) dX9_times_38 rfl (nI_1 i) (by decide) ?_
    refine xx_goto (tgt := 18) dX9_times_41 (by decide) ?_
    refine xx_clv (lv2 := [(0, .ref b), (1, .int (nI x)), (2, .int (nI y)), (3, .int (nI c)), (4, .int (nI M)), (5, .int (nI (i + 1)))]) rfl ?_
    refine ih (i + 1) (by omega) C _ (by omega) h1 (fun j hj => ?_) (fun j hj => (pk_un (by omega)).trans (y4 j hj)) (fun q hq => (o1 q hq).trans (y5 q hq))
    by_cases e : j = i
    · subst e; rw [pk_us]; rfl
    · rw [pk_un (by omega)]; exact y3 j (by omega)
set_option maxRecDepth 100000 in
theorem l_X9_ti {G : xx_G} {l : Launch} {A : xx_H} {b : Nat} {u0 : Value} {us : List Value} {x y c lb M i : Nat} {f g : Nat → Int32} {X Y R0 : Nat → Nat} {Q : Option Value ⊕ String → xx_H → Prop} (hb : A.2 b = xx_o 9 (u0 :: .ref (b + 1) :: .ref (b + 2) :: .ref (b + 3) :: us)) (hg : A.2 (b + 2) = xx_i 1740 g) (hgy : g y = nI lb) (hy : y < 1740) (hc : c < 1740) (hyc : y ≠ c) (hM : M ≤ 40) (hi : i + lb < M) (hXi : X i < 65536) (hY : ∀ j, j < lb → Y j < 65536 ∧ f (40 * y + j) = nI (Y j)) (k : ∀ (B : xx_H) (f1 : Nat → Int32) (R : Nat → Nat) (cr : Nat), B.1 = A.1 → B.2 (b + 1) = xx_i 69600 f1 → (∀ j, j < M → R j < 65536 ∧ f1 (40 * c + j) = nI (R j)) → (∀ w, i + lb ≤ w → R w = R0 w) → (∀ j, j < 40 * c ∨ 40 * c + 40 ≤ j → f1 j = f j) → cr < 65536 → yy_val 65536 R (i + lb) + cr * 65536 ^ (i + lb) = yy_val 65536 R0 (i + lb) + X i * 65536 ^ i * yy_val 65536 Y lb → (∀ q, q ≠ b + 1 → B.2 q = A.2 q) → xx_X G l mX9_times 1 0 0 163 [(0, .ref b), (1, .int (nI x)), (2, .int (nI y)), (3, .int (nI c)), (4, .int (nI M)), (5, .int (nI i)), (6, .long (lN cr))] [] B Q) :
    ∀ (t j : Nat), j + t = lb → ∀ (B : xx_H) (f1 : Nat → Int32) (R : Nat → Nat) (cr : Nat), B.1 = A.1 → B.2 (b + 1) = xx_i 69600 f1 → (∀ j, j < M → R j < 65536 ∧ f1 (40 * c + j) = nI (R j)) → (∀ w, i + j ≤ w → R w = R0 w) → (∀ j, j < 40 * c ∨ 40 * c + 40 ≤ j → f1 j = f j) → cr < 65536 → yy_val 65536 R (i + j) + cr * 65536 ^ (i + j) = yy_val 65536 R0 (i + j) + X i * 65536 ^ i * yy_val 65536 Y j → (∀ q, q ≠ b + 1 → B.2 q = A.2 q) → xx_X G l mX9_times 1 0 0 79 [(0, .ref b), (1, .int (nI x)), (2, .int (nI y)), (3, .int (nI c)), (4, .int (nI M)), (5, .int (nI i)), (6, .long (lN cr)), (8, .long (lN (X i))), (10, .int (nI j))] [] B Q := by
  intro t
  induction t with
  | zero =>
    intro j hj B f1 R cr y1 y2 y3 y4 y5 y6 y7 y8
    have : j = lb := by omega
    subst this
    have hb2 := (y8 b (by omega)).trans hb
    have hg2 := (y8 (b + 2) (by omega)).trans hg
    refine xx_iload dX9_times_79 rfl ?_
    refine xx_aload_n dX9_times_81 rfl ?_
    refine xx_get xx_c9 dX9_times_82 wf_X9_14 (j := 2) (by decide) hb2 rfl ?_
    refine xx_iload_n dX9_times_85 rfl ?_
    refine xx_iald dX9_times_86 hg2 (vp_in_nI (by omega) (by decide)) ?_
    refine xx_eqi (y := nI j) (by rw [nI_clamp (by omega)]; exact hgy) ?_
    refine xx_icmp_ge (tgt := 163) dX9_times_87 (by decide) (fun j87 => ?_) (fun h => absurd (Int32.le_refl _) h)
    refine xx_less [0, 1, 2, 3, 4, 5, 6] ?_
    refine xx_clv (lv2 := [(0, .ref b), (1, .int (nI x)), (2, .int (nI y)), (3, .int (nI c)), (4, .int (nI M)), (5, .int (nI i)), (6, .long (lN cr))]) rfl ?_
    exact k B f1 R cr y1 y2 y3 y4 y5 y6 y7 y8
  | succ t ih =>
    intro j hj B f1 R cr y1 y2 y3 y4 y5 y6 y7 y8
    have hb2 := (y8 b (by omega)).trans hb
    have hg2 := (y8 (b + 2) (by omega)).trans hg
    obtain ⟨p1, q1⟩ := hY j (by omega)
    have q1 : f1 (40 * y + j) = nI (Y j) := (y5 _ (by omega)).trans q1
    obtain ⟨p2, q2⟩ := y3 (i + j) (by omega)
    have q2 : f1 (40 * c + i + j) = nI (R (i + j)) := by rw [Nat.add_assoc]; exact q2
    have hpr : X i * Y j ≤ 65535 * 65535 := Nat.mul_le_mul (by omega) (by omega)
    obtain ⟨m, hm⟩ : ∃ m, m = X i * Y j := ⟨_, rfl⟩
    rw [← hm] at hpr
    refine xx_iload dX9_times_79 rfl ?_
    refine xx_aload_n dX9_times_81 rfl ?_
    refine xx_get xx_c9 dX9_times_82 wf_X9_14 (j := 2) (by decide) hb2 rfl ?_
    refine xx_iload_n dX9_times_85 rfl ?_
    refine xx_iald dX9_times_86 hg2 (vp_in_nI (by omega) (by decide)) ?_
    refine xx_eqi (y := nI lb) (by rw [nI_clamp (by omega)]; exact hgy) ?_
    refine xx_icmp_ge (tgt := 163) dX9_times_87 (by decide) (fun h => absurd h (nI_ge (by omega) (by omega))) (fun j87 => ?_)
    refine xx_lload dX9_times_90 rfl ?_
    refine xx_aload_n dX9_times_92 rfl ?_
    refine xx_get xx_c9 dX9_times_93 wf_X9_8 (j := 1) (by decide) hb2 rfl ?_
    refine xx_bipush (v := 40) dX9_times_96 (by decide) ?_
    refine xx_iload_n dX9_times_98 rfl ?_
    refine xx_imul dX9_times_99 ?_
    refine xx_eqi (y := nI (40 * y)) (pk_mul 40 y) ?_
    refine xx_iload dX9_times_100 rfl ?_
    refine xx_iadd dX9_times_102 ?_
    refine xx_eqi (y := nI (40 * y + j)) (nI_add (40 * y) j) ?_
    refine xx_iald dX9_times_103 y2 (vp_in_nI (by omega) (by decide)) ?_
    refine xx_eqi (y := nI (Y j)) (by rw [nI_clamp (by omega)]; exact q1) ?_
    refine xx_i2l dX9_times_104 ?_
    refine xx_eql (y := lN (Y j)) (nI_l (by omega)) ?_
    refine xx_lmul dX9_times_105 ?_
    refine xx_eql (y := lN m) ((lN_mul (X i) (Y j)).trans (congrArg lN (by omega))) ?_
    refine xx_aload_n dX9_times_106 rfl ?_
    refine xx_get xx_c9 dX9_times_107 wf_X9_8 (j := 1) (by decide) hb2 rfl ?_
    refine xx_bipush (v := 40) dX9_times_110 (by decide) ?_
    refine xx_iload_n dX9_times_112 rfl ?_
    refine xx_imul dX9_times_113 ?_
    refine xx_eqi (y := nI (40 * c)) (pk_mul 40 c) ?_
    refine xx_iload dX9_times_114 rfl ?_
    refine xx_iadd dX9_times_116 ?_
    refine xx_eqi (y := nI (40 * c + i)) (nI_add (40 * c) i) ?_
    refine xx_iload dX9_times_117 rfl ?_
    refine xx_iadd dX9_times_119 ?_
    refine xx_eqi (y := nI (40 * c + i + j)) (nI_add (40 * c + i) j) ?_
    refine xx_iald dX9_times_120 y2 (vp_in_nI (by omega) (by decide)) ?_
    refine xx_eqi (y := nI (R (i + j))) (by rw [nI_clamp (by omega)]; exact q2) ?_
    refine xx_i2l dX9_times_121 ?_
    refine xx_eql (y := lN (R (i + j))) (nI_l (by omega)) ?_
    refine xx_ladd dX9_times_122 ?_
    refine xx_eql (y := lN (m + (R (i + j)))) (lN_add m (R (i + j))) ?_
    refine xx_lload dX9_times_123 rfl ?_
    refine xx_ladd dX9_times_125 ?_
    refine xx_eql (y := lN (m + (R (i + j)) + cr)) (lN_add (m + (R (i + j))) cr) ?_
    refine xx_lstore dX9_times_126 (by decide) ?_
    refine xx_clv (lv2 := [(0, .ref b), (1, .int (nI x)), (2, .int (nI y)), (3, .int (nI c)), (4, .int (nI M)), (5, .int (nI i)), (6, .long (lN cr)), (8, .long (lN (X i))), (10, .int (nI j)), (11, .long (lN (m + (R (i + j)) + cr)))]) rfl ?_
    refine xx_aload_n dX9_times_128 rfl ?_
    refine xx_get xx_c9 dX9_times_129 wf_X9_8 (j := 1) (by decide) hb2 rfl ?_
    refine xx_bipush (v := 40) dX9_times_132 (by decide) ?_
    refine xx_iload_n dX9_times_134 rfl ?_
    refine xx_imul dX9_times_135 ?_
    refine xx_eqi (y := nI (40 * c)) (pk_mul 40 c) ?_
    refine xx_iload dX9_times_136 rfl ?_
    refine xx_iadd dX9_times_138 ?_
    refine xx_eqi (y := nI (40 * c + i)) (nI_add (40 * c) i) ?_
    refine xx_iload dX9_times_139 rfl ?_
    refine xx_iadd dX9_times_141 ?_
    refine xx_eqi (y := nI (40 * c + i + j)) (nI_add (40 * c + i) j) ?_
    refine xx_lload dX9_times_142 rfl ?_
    refine xx_ldc2 (v := 65535) dX9_times_144 wk_X9_87 ?_
    refine xx_land dX9_times_147 ?_
    refine xx_eql (y := lN ((m + (R (i + j)) + cr) % 65536)) (yy_and16 (by omega)) ?_
    refine xx_l2i dX9_times_148 ?_
    refine xx_eqi (y := nI ((m + (R (i + j)) + cr) % 65536)) (lN_i _) ?_
    refine xx_iast dX9_times_149 y2 (vp_in_nI (by omega) (by decide)) (xx_gu fun C z1 h1 o1 => ?_)
    rw [nI_clamp (by omega)] at h1
    refine xx_lload dX9_times_150 rfl ?_
    refine xx_bipush (v := 16) dX9_times_152 (by decide) ?_
    refine xx_lshr dX9_times_154 ?_
    refine xx_eql (y := lN ((m + R (i + j) + cr) / 65536)) (yy_lshr (k := 16) (by omega) (by decide)) ?_
    refine xx_lstore dX9_times_155 (by decide) ?_
    refine xx_clv (lv2 := [(0, .ref b), (1, .int (nI x)), (2, .int (nI y)), (3, .int (nI c)), (4, .int (nI M)), (5, .int (nI i)), (6, .long (lN ((m + R (i + j) + cr) / 65536))), (8, .long (lN (X i))), (10, .int (nI j)), (11, .long (lN (m + (R (i + j)) + cr)))]) rfl ?_
    refine xx_iinc (v := nI (j + 1)) dX9_times_157 rfl (nI_1 j) (by decide) ?_
    refine xx_goto (tgt := 79) dX9_times_160 (by decide) ?_
    refine xx_less [0, 1, 2, 3, 4, 5, 6, 8, 10] ?_
    refine xx_clv (lv2 := [(0, .ref b), (1, .int (nI x)), (2, .int (nI y)), (3, .int (nI c)), (4, .int (nI M)), (5, .int (nI i)), (6, .long (lN ((m + R (i + j) + cr) / 65536))), (8, .long (lN (X i))), (10, .int (nI (j + 1)))]) rfl ?_
    refine ih (j + 1) (by omega) C _ (yy_ud R (i + j) ((m + R (i + j) + cr) % 65536)) ((m + R (i + j) + cr) / 65536) (by omega) h1 (fun q hq => ?_) (fun q hq => (yy_ud_n (by omega)).trans (y4 q (by omega))) (fun q hq => (pk_un (by omega)).trans (y5 q hq)) (by omega) ?_ (fun q hq => (o1 q hq).trans (y8 q hq))
    · by_cases e : q = i + j
      · subst e; rw [yy_ud_s, ← Nat.add_assoc, pk_us]; exact ⟨Nat.mod_lt _ (by decide), rfl⟩
      · rw [pk_un (by omega), yy_ud_n e]; exact y3 q hq
    · rw [← Nat.add_assoc, yy_ud_val, Nat.pow_succ]
      have e9 : yy_val 65536 R0 (i + j + 1) = yy_val 65536 R0 (i + j) + R0 (i + j) * 65536 ^ (i + j) := rfl
      have e8 : yy_val 65536 Y (j + 1) = yy_val 65536 Y j + Y j * 65536 ^ j := rfl
      rw [e9, e8, ← y4 (i + j) (Nat.le_refl _)]
      exact yy_tin (Nat.pow_add 65536 i j) y7 (show m + R (i + j) + cr = X i * Y j + R (i + j) + cr by omega) (Nat.mod_add_div _ _)
set_option maxRecDepth 100000 in
theorem l_X9_to {G : xx_G} {l : Launch} {A : xx_H} {b : Nat} {u0 : Value} {us : List Value} {x y c la lb : Nat} {f g : Nat → Int32} {X Y : Nat → Nat} {Q : Option Value ⊕ String → xx_H → Prop} (hb : A.2 b = xx_o 9 (u0 :: .ref (b + 1) :: .ref (b + 2) :: .ref (b + 3) :: us)) (hg : A.2 (b + 2) = xx_i 1740 g) (hgx : g x = nI la) (hgy : g y = nI lb) (hx : x < 1740) (hy : y < 1740) (hc : c < 1740) (hxc : x ≠ c) (hyc : y ≠ c) (hM : la + lb ≤ 40) (hX : ∀ j, j < la → X j < 65536 ∧ f (40 * x + j) = nI (X j)) (hY : ∀ j, j < lb → Y j < 65536 ∧ f (40 * y + j) = nI (Y j)) (k : ∀ (B : xx_H) (f1 : Nat → Int32) (R : Nat → Nat), B.1 = A.1 → B.2 (b + 1) = xx_i 69600 f1 → (∀ j, j < la + lb → R j < 65536 ∧ f1 (40 * c + j) = nI (R j)) → (∀ j, la + lb ≤ j → R j = 0) → (∀ j, j < 40 * c ∨ 40 * c + 40 ≤ j → f1 j = f j) → yy_val 65536 R (la + lb) = yy_val 65536 X la * yy_val 65536 Y lb → (∀ q, q ≠ b + 1 → B.2 q = A.2 q) → xx_X G l mX9_times 1 0 0 191 [(0, .ref b), (1, .int (nI x)), (2, .int (nI y)), (3, .int (nI c)), (4, .int (nI (la + lb)))] [] B Q) :
    ∀ (t i : Nat), i + t = la → ∀ (B : xx_H) (f1 : Nat → Int32) (R : Nat → Nat), B.1 = A.1 → B.2 (b + 1) = xx_i 69600 f1 → (∀ j, j < la + lb → R j < 65536 ∧ f1 (40 * c + j) = nI (R j)) → (∀ j, i + lb ≤ j → R j = 0) → (∀ j, j < 40 * c ∨ 40 * c + 40 ≤ j → f1 j = f j) → yy_val 65536 R (i + lb) = yy_val 65536 X i * yy_val 65536 Y lb → (∀ q, q ≠ b + 1 → B.2 q = A.2 q) → xx_X G l mX9_times 1 0 0 47 [(0, .ref b), (1, .int (nI x)), (2, .int (nI y)), (3, .int (nI c)), (4, .int (nI (la + lb))), (5, .int (nI i))] [] B Q := by
  intro t
  induction t with
  | zero =>
    intro i hi B f1 R y1 y2 y3 y4 y5 y6 y7
    have : i = la := by omega
    subst this
    have hb2 := (y7 b (by omega)).trans hb
    have hg2 := (y7 (b + 2) (by omega)).trans hg
    refine xx_iload dX9_times_47 rfl ?_
    refine xx_aload_n dX9_times_49 rfl ?_
    refine xx_get xx_c9 dX9_times_50 wf_X9_14 (j := 2) (by decide) hb2 rfl ?_
    refine xx_iload_n dX9_times_53 rfl ?_
    refine xx_iald dX9_times_54 hg2 (vp_in_nI (by omega) (by decide)) ?_
    refine xx_eqi (y := nI i) (by rw [nI_clamp (by omega)]; exact hgx) ?_
    refine xx_icmp_ge (tgt := 191) dX9_times_55 (by decide) (fun j55 => ?_) (fun h => absurd (Int32.le_refl _) h)
    refine xx_less [0, 1, 2, 3, 4] ?_
    refine xx_clv (lv2 := [(0, .ref b), (1, .int (nI x)), (2, .int (nI y)), (3, .int (nI c)), (4, .int (nI (i + lb)))]) rfl ?_
    exact k B f1 R y1 y2 y3 y4 y5 y6 y7
  | succ t ih =>
    intro i hi B f1 R y1 y2 y3 y4 y5 y6 y7
    have hb2 := (y7 b (by omega)).trans hb
    have hg2 := (y7 (b + 2) (by omega)).trans hg
    obtain ⟨p1, q1⟩ := hX i (by omega)
    have q1 : f1 (40 * x + i) = nI (X i) := (y5 _ (by omega)).trans q1
    refine xx_iload dX9_times_47 rfl ?_
    refine xx_aload_n dX9_times_49 rfl ?_
    refine xx_get xx_c9 dX9_times_50 wf_X9_14 (j := 2) (by decide) hb2 rfl ?_
    refine xx_iload_n dX9_times_53 rfl ?_
    refine xx_iald dX9_times_54 hg2 (vp_in_nI (by omega) (by decide)) ?_
    refine xx_eqi (y := nI la) (by rw [nI_clamp (by omega)]; exact hgx) ?_
    refine xx_icmp_ge (tgt := 191) dX9_times_55 (by decide) (fun h => absurd h (nI_ge (by omega) (by omega))) (fun j55 => ?_)
    refine xx_lconst (v := 0) dX9_times_58 (by decide) ?_
    refine xx_lstore dX9_times_59 (by decide) ?_
    refine xx_clv (lv2 := [(0, .ref b), (1, .int (nI x)), (2, .int (nI y)), (3, .int (nI c)), (4, .int (nI (la + lb))), (5, .int (nI i)), (6, .long 0)]) rfl ?_
    refine xx_aload_n dX9_times_61 rfl ?_
    refine xx_get xx_c9 dX9_times_62 wf_X9_8 (j := 1) (by decide) hb2 rfl ?_
    refine xx_bipush (v := 40) dX9_times_65 (by decide) ?_
    refine xx_iload_n dX9_times_67 rfl ?_
    refine xx_imul dX9_times_68 ?_
    refine xx_eqi (y := nI (40 * x)) (pk_mul 40 x) ?_
    refine xx_iload dX9_times_69 rfl ?_
    refine xx_iadd dX9_times_71 ?_
    refine xx_eqi (y := nI (40 * x + i)) (nI_add (40 * x) i) ?_
    refine xx_iald dX9_times_72 y2 (vp_in_nI (by omega) (by decide)) ?_
    refine xx_eqi (y := nI (X i)) (by rw [nI_clamp (by omega)]; exact q1) ?_
    refine xx_i2l dX9_times_73 ?_
    refine xx_eql (y := lN (X i)) (nI_l (by omega)) ?_
    refine xx_lstore dX9_times_74 (by decide) ?_
    refine xx_clv (lv2 := [(0, .ref b), (1, .int (nI x)), (2, .int (nI y)), (3, .int (nI c)), (4, .int (nI (la + lb))), (5, .int (nI i)), (6, .long 0), (8, .long (lN (X i)))]) rfl ?_
    refine xx_iconst (v := 0) dX9_times_76 (by decide) ?_
    refine xx_istore dX9_times_77 (by decide) ?_
    refine xx_clv (lv2 := [(0, .ref b), (1, .int (nI x)), (2, .int (nI y)), (3, .int (nI c)), (4, .int (nI (la + lb))), (5, .int (nI i)), (6, .long 0), (8, .long (lN (X i))), (10, .int 0)]) rfl ?_
    refine xx_clv (lv2 := [(0, .ref b), (1, .int (nI x)), (2, .int (nI y)), (3, .int (nI c)), (4, .int (nI (la + lb))), (5, .int (nI i)), (6, .long (lN 0)), (8, .long (lN (X i))), (10, .int (nI 0))]) rfl ?_
    refine l_X9_ti (A := B) (x := x) (X := X) (Y := Y) (R0 := R) (f := f1) hb2 hg2 hgy hy hc hyc hM (show i + lb < la + lb by omega) p1 (fun j hj => ⟨(hY j hj).1, (y5 _ (by omega)).trans (hY j hj).2⟩) (fun C f2 R2 cr z1 z2 z3 z4 z5 z6 z7 z8 => ?_) lb 0 (by omega) B f1 R 0 rfl y2 y3 (fun _ _ => rfl) (fun _ _ => rfl) (by decide) (by rw [yy_v0]; simp) (fun q _ => rfl)
    have hb3 := (z8 b (by omega)).trans hb2
    have hg3 := (z8 (b + 2) (by omega)).trans hg2
    refine xx_aload_n dX9_times_163 rfl ?_
    refine xx_get xx_c9 dX9_times_164 wf_X9_8 (j := 1) (by decide) hb3 rfl ?_
    refine xx_bipush (v := 40) dX9_times_167 (by decide) ?_
    refine xx_iload_n dX9_times_169 rfl ?_
    refine xx_imul dX9_times_170 ?_
    refine xx_eqi (y := nI (40 * c)) (pk_mul 40 c) ?_
    refine xx_iload dX9_times_171 rfl ?_
    refine xx_iadd dX9_times_173 ?_
    refine xx_eqi (y := nI (40 * c + i)) (nI_add (40 * c) i) ?_
    refine xx_aload_n dX9_times_174 rfl ?_
    refine xx_get xx_c9 dX9_times_175 wf_X9_14 (j := 2) (by decide) hb3 rfl ?_
    refine xx_iload_n dX9_times_178 rfl ?_
    refine xx_iald dX9_times_179 hg3 (vp_in_nI (by omega) (by decide)) ?_
    refine xx_eqi (y := nI lb) (by rw [nI_clamp (by omega)]; exact hgy) ?_
    refine xx_iadd dX9_times_180 ?_
    refine xx_eqi (y := nI (40 * c + i + lb)) (nI_add (40 * c + i) lb) ?_
    refine xx_lload dX9_times_181 rfl ?_
    refine xx_l2i dX9_times_183 ?_
    refine xx_eqi (y := nI cr) (lN_i _) ?_
    refine xx_iast dX9_times_184 z2 (vp_in_nI (by omega) (by decide)) (xx_gu fun D w1 h1 o1 => ?_)
    rw [nI_clamp (by omega)] at h1
    refine xx_iinc (v := nI (i + 1)) dX9_times_185 rfl (nI_1 i) (by decide) ?_
    refine xx_goto (tgt := 47) dX9_times_188 (by decide) ?_
    refine xx_less [0, 1, 2, 3, 4, 5] ?_
    refine xx_clv (lv2 := [(0, .ref b), (1, .int (nI x)), (2, .int (nI y)), (3, .int (nI c)), (4, .int (nI (la + lb))), (5, .int (nI (i + 1)))]) rfl ?_
    refine ih (i + 1) (by omega) D _ (yy_ud R2 (i + lb) cr) (by omega) h1 (fun q hq => ?_) (fun q hq => (yy_ud_n (by omega)).trans ((z4 q (by omega)).trans (y4 q (by omega)))) (fun q hq => (pk_un (by omega)).trans ((z5 q hq).trans (y5 q hq))) ?_ (fun q hq => (o1 q hq).trans ((z8 q hq).trans (y7 q hq)))
    · by_cases e : q = i + lb
      · subst e; rw [yy_ud_s, ← Nat.add_assoc, pk_us]; exact ⟨z6, rfl⟩
      · rw [pk_un (by omega), yy_ud_n e]; exact z3 q hq
    · rw [show i + 1 + lb = i + lb + 1 by omega, yy_ud_val, z7, y6]
      have e8 : yy_val 65536 X (i + 1) = yy_val 65536 X i + X i * 65536 ^ i := rfl
      rw [e8, Nat.add_mul]
set_option maxRecDepth 100000 in
theorem c_X9_times {G : xx_G} {l : Launch} {A : xx_H} {b : Nat} {u0 : Value} {us : List Value} {x y c : Nat} {N : Nat → Int} (hb : A.2 b = xx_o 9 (u0 :: .ref (b + 1) :: .ref (b + 2) :: .ref (b + 3) :: us)) (hN : xx_rg A b N) (hx : x < 1740) (hy : y < 1740) (hc : c < 1740) (hxc : x ≠ c) (hyc : y ≠ c) (hbd : ∃ p q, p + q = 40 ∧ (N x).natAbs < 65536 ^ p ∧ (N y).natAbs < 65536 ^ q) : xx_X G l mX9_times 1 0 0 0 (lv_args 0 [.ref b, .int (nI x), .int (nI y), .int (nI c)]) [] A (fun q B => q = .inl none ∧ B.1 = A.1 ∧ xx_rg B b (yy_un N c (N x * N y)) ∧ ∀ q, q ≠ b + 1 → q ≠ b + 2 → q ≠ b + 3 → B.2 q = A.2 q) := by
  obtain ⟨f, g, h, hf, hg, hh, hN⟩ := hN
  obtain ⟨x1, la, x2, x3, X, x4, x5, x6⟩ := hN x hx
  obtain ⟨y1, lb, y2, y3, Y, y4, y5, y6⟩ := hN y hy
  have hM : la + lb ≤ 40 := by
    obtain ⟨p, q, h1, h2, h3⟩ := hbd
    have a1 := yy_lp (p := p) x5 (by rw [← x6]; exact h2)
    have a2 := yy_lp (p := q) y5 (by rw [← y6]; exact h3)
    omega
  refine xx_clv (lv2 := [(0, .ref b), (1, .int (nI x)), (2, .int (nI y)), (3, .int (nI c))]) rfl ?_
  refine xx_aload_n dX9_times_0 rfl ?_
  refine xx_get xx_c9 dX9_times_1 wf_X9_14 (j := 2) (by decide) hb rfl ?_
  refine xx_iload_n dX9_times_4 rfl ?_
  refine xx_iald dX9_times_5 hg (vp_in_nI (by omega) (by decide)) ?_
  refine xx_eqi (y := nI la) (by rw [nI_clamp (by omega)]; exact x2) ?_
  refine xx_aload_n dX9_times_6 rfl ?_
  refine xx_get xx_c9 dX9_times_7 wf_X9_14 (j := 2) (by decide) hb rfl ?_
  refine xx_iload_n dX9_times_10 rfl ?_
  refine xx_iald dX9_times_11 hg (vp_in_nI (by omega) (by decide)) ?_
  refine xx_eqi (y := nI lb) (by rw [nI_clamp (by omega)]; exact y2) ?_
  refine xx_iadd dX9_times_12 ?_
  refine xx_eqi (y := nI (la + lb)) (nI_add la lb) ?_
  refine xx_istore dX9_times_13 (by decide) ?_
  refine xx_clv (lv2 := [(0, .ref b), (1, .int (nI x)), (2, .int (nI y)), (3, .int (nI c)), (4, .int (nI (la + lb)))]) rfl ?_
  refine xx_iconst (v := 0) dX9_times_15 (by decide) ?_
  refine xx_istore dX9_times_16 (by decide) ?_
  refine xx_clv (lv2 := [(0, .ref b), (1, .int (nI x)), (2, .int (nI y)), (3, .int (nI c)), (4, .int (nI (la + lb))), (5, .int 0)]) rfl ?_
  refine xx_clv (lv2 := [(0, .ref b), (1, .int (nI x)), (2, .int (nI y)), (3, .int (nI c)), (4, .int (nI (la + lb))), (5, .int (nI 0))]) rfl ?_
  refine l_X9_tz (f := f) hb hc hM (fun B f1 z1 z2 z3 z4 z5 => ?_) (la + lb) 0 (by omega) A f rfl hf (fun j hj => absurd hj (Nat.not_lt_zero j)) (fun _ _ => rfl) (fun q _ => rfl)
  have hb2 := (z5 b (by omega)).trans hb
  have hg2 := (z5 (b + 2) (by omega)).trans hg
  refine xx_iconst (v := 0) dX9_times_44 (by decide) ?_
  refine xx_istore dX9_times_45 (by decide) ?_
  refine xx_clv (lv2 := [(0, .ref b), (1, .int (nI x)), (2, .int (nI y)), (3, .int (nI c)), (4, .int (nI (la + lb))), (5, .int 0)]) rfl ?_
  refine xx_clv (lv2 := [(0, .ref b), (1, .int (nI x)), (2, .int (nI y)), (3, .int (nI c)), (4, .int (nI (la + lb))), (5, .int (nI 0))]) rfl ?_
  refine l_X9_to (A := B) (X := X) (Y := Y) (f := f) hb2 hg2 x2 y2 hx hy hc hxc hyc hM x4 y4 (fun C f2 R w1 w2 w3 w4 w5 w6 w7 => ?_) la 0 (by omega) B f1 (fun _ => 0) rfl z2 (fun j hj => ⟨by decide, z3 j hj⟩) (fun _ _ => rfl) z4 (by rw [yy_val0 (fun _ => rfl), yy_v0, Nat.zero_mul]) (fun q _ => rfl)
  have hb3 := (w7 b (by omega)).trans hb2
  have hg3 := (w7 (b + 2) (by omega)).trans hg2
  have hh3 := (w7 (b + 3) (by omega)).trans ((z5 (b + 3) (by omega)).trans hh)
  refine xx_aload_n dX9_times_191 rfl ?_
  refine xx_get xx_c9 dX9_times_192 wf_X9_17 (j := 3) (by decide) hb3 rfl ?_
  refine xx_iload_n dX9_times_195 rfl ?_
  refine xx_aload_n dX9_times_196 rfl ?_
  refine xx_get xx_c9 dX9_times_197 wf_X9_17 (j := 3) (by decide) hb3 rfl ?_
  refine xx_iload_n dX9_times_200 rfl ?_
  refine xx_iald dX9_times_201 hh3 (vp_in_nI (by omega) (by decide)) ?_
  refine xx_eqi (y := iz (N x).sign) (by rw [nI_clamp (by omega)]; exact x1) ?_
  refine xx_aload_n dX9_times_202 rfl ?_
  refine xx_get xx_c9 dX9_times_203 wf_X9_17 (j := 3) (by decide) hb3 rfl ?_
  refine xx_iload_n dX9_times_206 rfl ?_
  refine xx_iald dX9_times_207 hh3 (vp_in_nI (by omega) (by decide)) ?_
  refine xx_eqi (y := iz (N y).sign) (by rw [nI_clamp (by omega)]; exact y1) ?_
  refine xx_imul dX9_times_208 ?_
  refine xx_eqi (y := iz (N x * N y).sign) (by rw [iz_mul, Int.sign_mul]) ?_
  refine xx_iast dX9_times_209 hh3 (vp_in_nI (by omega) (by decide)) (xx_gu fun D v1 h1 o1 => ?_)
  rw [nI_clamp (by omega)] at h1
  have hb4 := (o1 b (by omega)).trans hb3
  refine xx_aload_n dX9_times_210 rfl ?_
  refine xx_iload_n dX9_times_211 rfl ?_
  refine xx_iload dX9_times_212 rfl ?_
  have ct := c_X9_trim (G := G) (l := l) (N := N) (v := N x * N y) hb4 ((o1 _ (by omega)).trans w2) ((o1 _ (by omega)).trans hg3) h1 (fun r hr e => (hN r hr).to (fun i hi => w5 _ (by omega)) rfl (pk_un e)) hc hM w3 (by rw [Int.natAbs_mul, x6, y6, w6]) (fun q => pk_us)
  refine xx_callV (N := mX9_trim) (vs := [.int (nI c), .int (nI (la + lb))]) (b := b) (rest := []) (d2 := 0) (c2 := 0) (s2 := 0) (c3 := 0) (s3 := 0) dX9_times_214 wm_X9_94 wi_X9_trim wv_X9_trim (k := 9) rfl (by decide) hb4 nX9_trim ⟨pX9_trim, Nat.le_of_ble_eq_true rfl, by decide, Nat.le_of_ble_eq_true rfl, by decide, by decide⟩ (ct) (fun v9 E hC => ?_) (fun E9 B9 hC => absurd hC.1 (by simp))
  obtain ⟨hv9, k1, k2, k3⟩ := hC
  cases hv9
  refine xx_cst (st2 := []) rfl ?_
  exact xx_vret dX9_times_217 rfl ⟨rfl, by omega, k2, fun q a1 a2 a3 => (k3 q a2 a3).trans ((o1 q a3).trans ((w7 q a1).trans (z5 q a1)))⟩
