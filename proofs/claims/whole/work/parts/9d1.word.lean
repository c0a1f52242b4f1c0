/-! ===== words of 64 bits ===== -/
def yb_w (v k : Nat) : Nat := v / 2 ^ (64 * k) % 2 ^ 64
theorem yb_w_lt (v k : Nat) : yb_w v k < 2 ^ 64 := Nat.mod_lt _ (Nat.two_pow_pos 64)
theorem yB_pow (i : Nat) : yB ^ i = 2 ^ (31 * i) := by rw [Nat.pow_mul]
theorem yb_or2 {x c s : Nat} (h : x < 2 ^ s) : x ||| (c * 2 ^ s) = x + c * 2 ^ s := by
  rw [Nat.or_comm, Nat.mul_comm, ← Nat.two_pow_add_eq_or_of_lt h, Nat.add_comm]
theorem yb_m64 {c s : Nat} (hs : s ≤ 64) : c * 2 ^ s % 2 ^ 64 = c % 2 ^ (64 - s) * 2 ^ s := by
  rw [show (2 : Nat) ^ 64 = 2 ^ (64 - s) * 2 ^ s by rw [← Nat.pow_add]; congr 1; omega, Nat.mul_mod_mul_right]
theorem yb_wa {x D i k s : Nat} (hx : x < 2 ^ (31 * i)) (he : 31 * i = 64 * k + s) (hs : s < 64) : yb_w x k ||| (D * 2 ^ s % 2 ^ 64) = yb_w (x + D * 2 ^ (31 * i)) k := by
  have q1 : x / 2 ^ (64 * k) < 2 ^ s := by
    rw [he, Nat.pow_add] at hx
    exact Nat.div_lt_of_lt_mul hx
  have q2 : x / 2 ^ (64 * k) % 2 ^ 64 = x / 2 ^ (64 * k) := Nat.mod_eq_of_lt (Nat.lt_trans q1 (Nat.pow_lt_pow_right (by decide) hs))
  unfold yb_w
  rw [q2, yb_m64 (by omega), yb_or2 q1, he, Nat.pow_add, ← Nat.mul_assoc, Nat.mul_right_comm, Nat.add_mul_div_right _ _ (Nat.two_pow_pos _)]
  rw [Nat.add_mod, q2, yb_m64 (by omega)]
  refine (Nat.mod_eq_of_lt ?_).symm
  have h1 : D % 2 ^ (64 - s) + 1 ≤ 2 ^ (64 - s) := Nat.mod_lt _ (Nat.two_pow_pos _)
  have h2 : (D % 2 ^ (64 - s) + 1) * 2 ^ s ≤ 2 ^ (64 - s) * 2 ^ s := Nat.mul_le_mul_right _ h1
  rw [← Nat.pow_add, show 64 - s + s = 64 by omega, Nat.add_mul, Nat.one_mul] at h2
  omega
theorem yb_wb {x D i k : Nat} (he : 64 * k + 64 ≤ 31 * i) : yb_w (x + D * 2 ^ (31 * i)) k = yb_w x k := by
  obtain ⟨r, hr⟩ : ∃ r, 31 * i = 64 * k + 64 + r := ⟨31 * i - (64 * k + 64), by omega⟩
  unfold yb_w
  rw [hr, Nat.pow_add, Nat.pow_add, show D * (2 ^ (64 * k) * 2 ^ 64 * 2 ^ r) = (D * 2 ^ r * 2 ^ 64) * 2 ^ (64 * k) by rw [Nat.mul_comm (2 ^ (64 * k)) (2 ^ 64), Nat.mul_right_comm (2 ^ 64) (2 ^ (64 * k)) (2 ^ r), ← Nat.mul_assoc, ← Nat.mul_assoc, Nat.mul_right_comm D (2 ^ 64) (2 ^ r)], Nat.add_mul_div_right _ _ (Nat.two_pow_pos _), Nat.add_mul_mod_self_right]
theorem yb_w0 {x k i : Nat} (hx : x < 2 ^ i) (h : i ≤ 64 * k) : yb_w x k = 0 := by
  unfold yb_w
  rw [Nat.div_eq_of_lt (Nat.lt_of_lt_of_le hx (Nat.pow_le_pow_right (by decide) h)), Nat.zero_mod]
theorem yb_wc {x D i k t : Nat} (hx : x < 2 ^ (31 * i)) (hD : D < 2 ^ 31) (he : 64 * k = 31 * i + t) : yb_w x k ||| (D / 2 ^ t) = yb_w (x + D * 2 ^ (31 * i)) k := by
  rw [yb_w0 hx (by omega), Nat.zero_or]
  unfold yb_w
  rw [he, Nat.pow_add, ← Nat.div_div_eq_div_mul, Nat.add_mul_div_right _ _ (Nat.two_pow_pos _), Nat.div_eq_of_lt hx, Nat.zero_add]
  exact (Nat.mod_eq_of_lt (Nat.lt_of_le_of_lt (Nat.div_le_self _ _) (Nat.lt_trans hD (by decide)))).symm
theorem yb_wd {x D i k : Nat} (hx : x < 2 ^ (31 * i)) (hD : D < 2 ^ 31) (he : 31 * i + 31 ≤ 64 * k) : yb_w (x + D * 2 ^ (31 * i)) k = yb_w x k := by
  rw [yb_w0 hx (by omega)]
  refine yb_w0 (i := 31 * i + 31) ?_ he
  have h1 : (D + 1) * 2 ^ (31 * i) ≤ 2 ^ 31 * 2 ^ (31 * i) := Nat.mul_le_mul_right _ hD
  rw [← Nat.pow_add, Nat.add_comm 31, Nat.add_mul, Nat.one_mul] at h1
  omega
theorem yb_v1 {D : Nat → Nat} (i : Nat) : yy_val yB D (i + 1) = yy_val yB D i + D i * 2 ^ (31 * i) := by
  rw [← yB_pow]; rfl
theorem yb_vl {D : Nat → Nat} {i n : Nat} (h : ∀ j, j < n → D j < yB) (hi : i ≤ n) : yy_val yB D i < 2 ^ (31 * i) := by
  rw [← yB_pow]; exact yy_val_lt (fun j hj => h j (by omega))
set_option maxRecDepth 100000 in
theorem l_X0_word {G : xx_G} {l : Launch} {A : xx_H} {b k len : Nat} {s0 : Value} {f : Nat → Int32} {D : Nat → Nat} {Q : Option Value ⊕ String → xx_H → Prop} (hb : A.2 b = xx_o 0 [s0, .int (nI len), .ref (b + 1)]) (hf : A.2 (b + 1) = xx_i 14 f) (hl : len ≤ 14) (hD : ∀ i, i < len → D i < yB ∧ f i = nI (D i)) (hk : k < 2 ^ 31) (kC : ∀ (B : xx_H), (B = A) → xx_X G l mX0_word 0 0 0 102 [(2, .long (lN (yb_w (yy_val yB D len) k)))] [] B Q) :
    ∀ (v i : Nat), i + v = len → ∀ (B : xx_H), (B = A) → xx_X G l mX0_word 0 0 0 5 [(0, .ref b), (1, .int (nI k)), (2, .long (lN (yb_w (yy_val yB D i) k))), (4, .int (nI i))] [] B Q := by
  intro v
  induction v with
  | zero =>
    intro i h9i B y1
    have h9e : len = i := by omega
    subst h9e
    rw [y1]
    refine xx_clv (lv2 := [(0, .ref b), (1, .int (nI k)), (2, .long (lN (yb_w (yy_val yB D len) k))), (4, .int (nI len))]) rfl ?_
    refine xx_iload dX0_word_5 rfl ?_
    refine xx_aload_n dX0_word_7 rfl ?_
    refine xx_get xx_c0 dX0_word_8 wf_X0_13 (j := 1) (by decide) hb rfl ?_
    refine xx_icmp_ge (tgt := 102) dX0_word_11 (by decide) (fun j11 => ?_) (fun h => absurd (Int32.le_refl _) h)
    refine xx_less [2] ?_
    refine xx_clv (lv2 := [(2, .long (lN (yb_w (yy_val yB D len) k)))]) rfl ?_
    exact kC A rfl
  | succ v ih =>
    intro i h9i B y1
    rw [y1]
    have d31 : D i < 2 ^ 31 := (hD i (by omega)).1
    have k64 : (64 * k : Nat) < 2 ^ 38 := by omega
    refine xx_iload dX0_word_5 rfl ?_
    refine xx_aload_n dX0_word_7 rfl ?_
    refine xx_get xx_c0 dX0_word_8 wf_X0_13 (j := 1) (by decide) hb rfl ?_
    refine xx_icmp_ge (tgt := 102) dX0_word_11 (by decide) (fun h => absurd h (nI_ge (a := i) (b := len) (by omega) (by omega))) (fun j11 => ?_)
    refine xx_ldc2 (v := 31) dX0_word_14 wk_X0_60 ?_
    refine xx_cst (st2 := [.long (lN 31)]) rfl ?_
    refine xx_iload dX0_word_17 rfl ?_
    refine xx_i2l dX0_word_19 ?_
    refine xx_eql (y := lN i) (nI_l (by omega)) ?_
    refine xx_lmul dX0_word_20 ?_
    refine xx_eql (y := lN (31 * i)) (lN_mul 31 i) ?_
    refine xx_ldc2 (v := 64) dX0_word_21 wk_X0_62 ?_
    refine xx_cst (st2 := [.long (lN 64), .long (lN (31 * i))]) rfl ?_
    refine xx_iload_n dX0_word_24 rfl ?_
    refine xx_i2l dX0_word_25 ?_
    refine xx_eql (y := lN k) (nI_l (by omega)) ?_
    refine xx_lmul dX0_word_26 ?_
    refine xx_eql (y := lN (64 * k)) (lN_mul 64 k) ?_
    refine xx_lsub dX0_word_27 ?_
    refine xx_eql (y := lz ((31 * i : Nat) - (64 * k : Nat) : Int)) (by rw [lN_lz, lN_lz, lz_sub]) ?_
    refine xx_lstore dX0_word_28 (by decide) ?_
    refine xx_clv (lv2 := [(0, .ref b), (1, .int (nI k)), (2, .long (lN (yb_w (yy_val yB D i) k))), (4, .int (nI i)), (5, .long (lz ((31 * i : Nat) - (64 * k : Nat) : Int)))]) rfl ?_
    refine xx_lload dX0_word_30 rfl ?_
    refine xx_lconst (v := 0) dX0_word_32 (by decide) ?_
    refine xx_lcmp dX0_word_33 ?_
    refine xx_if_lt (tgt := 64) dX0_word_34 (by decide) (fun j34 => ?_) (fun j34 => ?_)
    · have c1 : ((31 * i : Nat) - (64 * k : Nat) : Int) < 0 := (lz_lt (b := 0) (by omega) (by omega) (by decide) (by decide)).mp ((lg_cmp_lt _ _).mp j34)
      refine xx_lload dX0_word_64 rfl ?_
      refine xx_lconst (v := 0) dX0_word_66 (by decide) ?_
      refine xx_lcmp dX0_word_67 ?_
      refine xx_if_ge (tgt := 96) dX0_word_68 (by decide) (fun h => absurd h (fun z => absurd c1 (Int.not_lt.mpr (Int.not_lt.mp (fun q => absurd ((lz_lt (b := 0) (by omega) (by omega) (by decide) (by decide)).mpr q) (Int64.not_lt.mpr ((lg_cmp_ge _ _).mp z))))))) (fun j68 => ?_)
      refine xx_lload dX0_word_71 rfl ?_
      refine xx_ldc2 (v := -31) dX0_word_73 wk_X0_64 ?_
      refine xx_eql (y := lz (-31)) (by decide) ?_
      refine xx_lcmp dX0_word_76 ?_
      refine xx_if_le (tgt := 96) dX0_word_77 (by decide) (fun j77 => ?_) (fun j77 => ?_)
      · have c2 : ((31 * i : Nat) - (64 * k : Nat) : Int) ≤ -31 := Int.not_lt.mp (fun q => absurd ((lz_lt (a := -31) (by decide) (by decide) (by omega) (by omega)).mpr q) (Int64.not_lt.mpr ((lg_cmp_le _ _).mp j77)))
        have ee : yb_w (yy_val yB D (i + 1)) k = yb_w (yy_val yB D i) k := by rw [yb_v1]; exact yb_wd (yb_vl (n := len) (fun j hj => (hD j hj).1) (by omega)) d31 (by omega)
        rw [← ee]
        refine xx_iinc (v := nI (i + 1)) dX0_word_96 rfl (nI_1 i) (by decide) ?_
        refine xx_clv (lv2 := [(0, .ref b), (1, .int (nI k)), (2, .long (lN (yb_w (yy_val yB D (i + 1)) k))), (4, .int (nI (i + 1))), (5, .long (lz ((31 * i : Nat) - (64 * k : Nat) : Int)))]) rfl ?_
        refine xx_goto (tgt := 5) dX0_word_99 (by decide) ?_
        refine xx_less [0, 1, 2, 4] ?_
        refine xx_clv (lv2 := [(0, .ref b), (1, .int (nI k)), (2, .long (lN (yb_w (yy_val yB D (i + 1)) k))), (4, .int (nI (i + 1)))]) rfl ?_
        refine ih (i + 1) (by omega) A rfl
      · have c2 : -31 < ((31 * i : Nat) - (64 * k : Nat) : Int) := Int.not_le.mp (fun z => j77 ((lg_cmp_le _ _).mpr (Int64.not_lt.mp (fun q => absurd ((lz_lt (a := -31) (by decide) (by decide) (by omega) (by omega)).mp q) (by omega)))))
        obtain ⟨sh, hsh⟩ : ∃ sh, 64 * k = 31 * i + sh := ⟨64 * k - 31 * i, by omega⟩
        refine xx_lload_n dX0_word_80 rfl ?_
        refine xx_aload_n dX0_word_81 rfl ?_
        refine xx_get xx_c0 dX0_word_82 wf_X0_16 (j := 2) (by decide) hb rfl ?_
        refine xx_iload dX0_word_85 rfl ?_
        refine xx_iald dX0_word_87 hf (vp_in_nI (by omega) (by decide)) ?_
        refine xx_eqi (y := nI (D i)) (by rw [nI_clamp (by omega)]; exact (hD i (by omega)).2) ?_
        refine xx_i2l dX0_word_88 ?_
        refine xx_eql (y := lN (D i)) (nI_l (by omega)) ?_
        refine xx_lload dX0_word_89 rfl ?_
        refine xx_lneg dX0_word_91 ?_
        refine xx_eql (y := lN sh) (by rw [yy_lneg2, show -((31 * i : Nat) - (64 * k : Nat) : Int) = ((sh : Nat) : Int) by omega]; rfl) ?_
        refine xx_l2i dX0_word_92 ?_
        refine xx_eqi (y := nI sh) (lN_i _) ?_
        refine xx_lshr dX0_word_93 ?_
        refine xx_eql (y := lN ((D i) / 2 ^ sh)) (yy_lshr (by omega) (by omega)) ?_
        refine xx_lor dX0_word_94 ?_
        refine xx_eql (y := lN (yb_w (yy_val yB D (i + 1)) k)) (by rw [wb_or (yb_w_lt _ _) (Nat.lt_of_le_of_lt (Nat.div_le_self _ _) (Nat.lt_trans d31 (by decide))), yb_v1, ← yb_wc (yb_vl (n := len) (fun j hj => (hD j hj).1) (by omega)) d31 hsh]) ?_
        refine xx_lstore_n dX0_word_95 (by decide) ?_
        refine xx_clv (lv2 := [(0, .ref b), (1, .int (nI k)), (2, .long (lN (yb_w (yy_val yB D (i + 1)) k))), (4, .int (nI i)), (5, .long (lz ((31 * i : Nat) - (64 * k : Nat) : Int)))]) rfl ?_
        refine xx_iinc (v := nI (i + 1)) dX0_word_96 rfl (nI_1 i) (by decide) ?_
        refine xx_clv (lv2 := [(0, .ref b), (1, .int (nI k)), (2, .long (lN (yb_w (yy_val yB D (i + 1)) k))), (4, .int (nI (i + 1))), (5, .long (lz ((31 * i : Nat) - (64 * k : Nat) : Int)))]) rfl ?_
        refine xx_goto (tgt := 5) dX0_word_99 (by decide) ?_
        refine xx_less [0, 1, 2, 4] ?_
        refine xx_clv (lv2 := [(0, .ref b), (1, .int (nI k)), (2, .long (lN (yb_w (yy_val yB D (i + 1)) k))), (4, .int (nI (i + 1)))]) rfl ?_
        refine ih (i + 1) (by omega) A rfl
    · refine xx_lload dX0_word_37 rfl ?_
      refine xx_ldc2 (v := 64) dX0_word_39 wk_X0_62 ?_
      refine xx_lcmp dX0_word_42 ?_
      refine xx_if_ge (tgt := 64) dX0_word_43 (by decide) (fun j43 => ?_) (fun j43 => ?_)
      · have c1 : ¬ ((31 * i : Nat) - (64 * k : Nat) : Int) < 64 := fun z => absurd ((lz_lt (b := 64) (by omega) (by omega) (by decide) (by decide)).mpr z) (Int64.not_lt.mpr ((lg_cmp_ge _ _).mp j43))
        refine xx_lload dX0_word_64 rfl ?_
        refine xx_lconst (v := 0) dX0_word_66 (by decide) ?_
        refine xx_lcmp dX0_word_67 ?_
        refine xx_if_ge (tgt := 96) dX0_word_68 (by decide) (fun j68 => ?_) (fun h => absurd ((lg_cmp_ge _ _).mpr (Int64.not_lt.mp (fun q => absurd ((lz_lt (b := 0) (by omega) (by omega) (by decide) (by decide)).mp q) (by omega)))) h)
        have ee : yb_w (yy_val yB D (i + 1)) k = yb_w (yy_val yB D i) k := by rw [yb_v1]; exact yb_wb (by omega)
        rw [← ee]
        refine xx_iinc (v := nI (i + 1)) dX0_word_96 rfl (nI_1 i) (by decide) ?_
        refine xx_clv (lv2 := [(0, .ref b), (1, .int (nI k)), (2, .long (lN (yb_w (yy_val yB D (i + 1)) k))), (4, .int (nI (i + 1))), (5, .long (lz ((31 * i : Nat) - (64 * k : Nat) : Int)))]) rfl ?_
        refine xx_goto (tgt := 5) dX0_word_99 (by decide) ?_
        refine xx_less [0, 1, 2, 4] ?_
        refine xx_clv (lv2 := [(0, .ref b), (1, .int (nI k)), (2, .long (lN (yb_w (yy_val yB D (i + 1)) k))), (4, .int (nI (i + 1)))]) rfl ?_
        refine ih (i + 1) (by omega) A rfl
      · have c1 : ¬ (((31 * i : Nat) - (64 * k : Nat) : Int) < 0) := fun z => j34 ((lg_cmp_lt _ _).mpr ((lz_lt (b := 0) (by omega) (by omega) (by decide) (by decide)).mpr z))
        have c2 : ((31 * i : Nat) - (64 * k : Nat) : Int) < 64 := Int.not_le.mp (fun z => j43 ((lg_cmp_ge _ _).mpr (Int64.not_lt.mp (fun q => absurd ((lz_lt (b := 64) (by omega) (by omega) (by decide) (by decide)).mp q) (by omega)))))
        obtain ⟨sh, hsh⟩ : ∃ sh, 31 * i = 64 * k + sh := ⟨31 * i - 64 * k, by omega⟩
        refine xx_lload_n dX0_word_46 rfl ?_
        refine xx_aload_n dX0_word_47 rfl ?_
        refine xx_get xx_c0 dX0_word_48 wf_X0_16 (j := 2) (by decide) hb rfl ?_
        refine xx_iload dX0_word_51 rfl ?_
        refine xx_iald dX0_word_53 hf (vp_in_nI (by omega) (by decide)) ?_
        refine xx_eqi (y := nI (D i)) (by rw [nI_clamp (by omega)]; exact (hD i (by omega)).2) ?_
        refine xx_i2l dX0_word_54 ?_
        refine xx_eql (y := lN (D i)) (nI_l (by omega)) ?_
        refine xx_lload dX0_word_55 rfl ?_
        refine xx_l2i dX0_word_57 ?_
        refine xx_eqi (y := nI sh) (by rw [show ((31 * i : Nat) - (64 * k : Nat) : Int) = ((sh : Nat) : Int) by omega]; exact lz_i _) ?_
        refine xx_lshl dX0_word_58 ?_
        refine xx_eql (y := lN ((D i) * 2 ^ sh)) (wb_shl (D i) (k := sh) (by omega)) ?_
        refine xx_lor dX0_word_59 ?_
        refine xx_eql (y := lN (yb_w (yy_val yB D (i + 1)) k)) (by rw [wb_mod (D i * 2 ^ sh), wb_or (yb_w_lt _ _) (Nat.mod_lt _ (Nat.two_pow_pos 64)), yb_v1, ← yb_wa (yb_vl (n := len) (fun j hj => (hD j hj).1) (by omega)) hsh (by omega)]) ?_
        refine xx_lstore_n dX0_word_60 (by decide) ?_
        refine xx_clv (lv2 := [(0, .ref b), (1, .int (nI k)), (2, .long (lN (yb_w (yy_val yB D (i + 1)) k))), (4, .int (nI i)), (5, .long (lz ((31 * i : Nat) - (64 * k : Nat) : Int)))]) rfl ?_
        refine xx_goto (tgt := 96) dX0_word_61 (by decide) ?_
        refine xx_iinc (v := nI (i + 1)) dX0_word_96 rfl (nI_1 i) (by decide) ?_
        refine xx_clv (lv2 := [(0, .ref b), (1, .int (nI k)), (2, .long (lN (yb_w (yy_val yB D (i + 1)) k))), (4, .int (nI (i + 1))), (5, .long (lz ((31 * i : Nat) - (64 * k : Nat) : Int)))]) rfl ?_
        refine xx_goto (tgt := 5) dX0_word_99 (by decide) ?_
        refine xx_less [0, 1, 2, 4] ?_
        refine xx_clv (lv2 := [(0, .ref b), (1, .int (nI k)), (2, .long (lN (yb_w (yy_val yB D (i + 1)) k))), (4, .int (nI (i + 1)))]) rfl ?_
        refine ih (i + 1) (by omega) A rfl
set_option maxRecDepth 100000 in
theorem c_X0_word {G : xx_G} {l : Launch} {A : xx_H} {b k : Nat} {v : Int} (hb : xx_bg A b v) (hk : k < 2 ^ 31) : xx_X G l mX0_word 0 0 0 0 (lv_args 0 [.ref b, .int (nI k)]) [] A (fun z B => z = .inl (some (.long (lN (yb_w v.natAbs k)))) ∧ B = A) := by
  obtain ⟨f, len, h1, h2, h3, D, h4, h5, h6⟩ := hb
  refine xx_clv (lv2 := [(0, .ref b), (1, .int (nI k))]) rfl ?_
  refine xx_lconst (v := 0) dX0_word_0 (by decide) ?_
  refine xx_lstore_n dX0_word_1 (by decide) ?_
  refine xx_clv (lv2 := [(0, .ref b), (1, .int (nI k)), (2, .long 0)]) rfl ?_
  refine xx_iconst (v := 0) dX0_word_2 (by decide) ?_
  refine xx_istore dX0_word_3 (by decide) ?_
  refine xx_clv (lv2 := [(0, .ref b), (1, .int (nI k)), (2, .long 0), (4, .int 0)]) rfl ?_
  refine xx_clv (lv2 := [(0, .ref b), (1, .int (nI k)), (2, .long (lN (yb_w (yy_val yB D 0) k))), (4, .int (nI 0))]) (by rw [show yb_w (yy_val yB D 0) k = 0 from yb_w0 (i := 0) (by show 0 < 1; decide) (Nat.zero_le _)]; rfl) ?_
  refine l_X0_word h1 h2 h3 h4 hk (fun B y1 => ?_) len 0 (by omega) A rfl
  rw [y1, h6]
  refine xx_lload_n dX0_word_102 rfl ?_
  exact xx_lret dX0_word_103 rfl ⟨rfl, rfl⟩
set_option maxRecDepth 100000 in
theorem c_X8_part {G : xx_G} {l : Launch} {A : xx_H} {b : Nat} {u6 u7 u8 u10 u11 : Value} {bl x : Int32} {u w : Int} (hb : A.2 b = xx_o 8 [.ref (b + 1), .ref (b + 2), .ref (b + 11), .ref (b + 18), .ref (b + 19), .ref (b + 226), u6, u7, u8, .ref (b + 230), u10, u11, .ref (b + 233), .ref (b + 266), .ref (b + 279), .ref (b + 281), .ref (b + 283), .ref (b + 288)]) (hh : xx_fq A (b + 283) u w) : xx_X G l mX8_part 6 1 6 0 (lv_args 0 [.ref b, .int bl, .int x]) [] A (fun z B => ((∃ k, k < 2 ^ 31 ∧ x = nI k ∧ z = .inl (some (.long (lN (yb_w (if bl = 0 then u else w).natAbs k))))) ∧ B = A) ∨ (x < 0 ∧ z = .inr R_ioe ∧ A.1 ≤ B.1 ∧ B.2 = A.2)) := by
  obtain ⟨q1, q2, q3⟩ := id hh
  obtain ⟨g7, l7, bu, _⟩ := id q2
  obtain ⟨g8, l8, bw, _⟩ := id q3
  refine xx_clv (lv2 := [(0, .ref b), (1, .int bl), (2, .int x)]) rfl ?_
  refine xx_iload_n dX8_part_0 rfl ?_
  refine xx_if_ge (tgt := 14) dX8_part_1 (by decide) (fun j1 => ?_) (fun j1 => ?_)
  · obtain ⟨k, hk, ek⟩ := nI_of (Int32.not_lt.mpr j1)
    subst ek
    refine xx_clv (lv2 := [(0, .ref b), (1, .int bl), (2, .int (nI k))]) rfl ?_
    refine xx_iload_n dX8_part_14 rfl ?_
    refine xx_if_eq (tgt := 32) dX8_part_15 (by decide) (fun j15 => ?_) (fun j15 => ?_)
    · refine xx_aload_n dX8_part_32 rfl ?_
      refine xx_get xx_c8 dX8_part_33 wf_X8_91 (j := 16) (by decide) hb rfl ?_
      refine xx_get xx_c2 dX8_part_36 wf_X8_174 (j := 0) (by decide) q1 rfl ?_
      refine xx_iload_n dX8_part_39 rfl ?_
      refine xx_callV (N := mX0_word) (vs := [.int (nI k)]) (b := (b + 283 + 1)) (rest := []) (d2 := 0) (c2 := 0) (s2 := 0) (c3 := 0) (s3 := 0) dX8_part_40 wm_X8_252 wi_X0_word wv_X0_word (k := 0) rfl (by decide) bu nX0_word ⟨pX0_word, Nat.le_of_ble_eq_true rfl, by decide, Nat.le_of_ble_eq_true rfl, by decide, by decide⟩ (c_X0_word q2 hk) (fun v9 B9 hC => ?_) (fun E9 B9 hC => absurd hC.1 (by simp))
      obtain ⟨hv9, e9⟩ := hC
      cases hv9
      refine xx_cst (st2 := [.long (lN (yb_w u.natAbs k))]) rfl ?_
      rw [e9]
      exact xx_lret dX8_part_43 rfl (Or.inl ⟨⟨k, hk, rfl, by rw [if_pos j15]⟩, rfl⟩)
    · refine xx_aload_n dX8_part_18 rfl ?_
      refine xx_get xx_c8 dX8_part_19 wf_X8_91 (j := 16) (by decide) hb rfl ?_
      refine xx_get xx_c2 dX8_part_22 wf_X8_184 (j := 1) (by decide) q1 rfl ?_
      refine xx_iload_n dX8_part_25 rfl ?_
      refine xx_callV (N := mX0_word) (vs := [.int (nI k)]) (b := (b + 283 + 3)) (rest := []) (d2 := 0) (c2 := 0) (s2 := 0) (c3 := 0) (s3 := 0) dX8_part_26 wm_X8_252 wi_X0_word wv_X0_word (k := 0) rfl (by decide) bw nX0_word ⟨pX0_word, Nat.le_of_ble_eq_true rfl, by decide, Nat.le_of_ble_eq_true rfl, by decide, by decide⟩ (c_X0_word q3 hk) (fun v9 B9 hC => ?_) (fun E9 B9 hC => absurd hC.1 (by simp))
      obtain ⟨hv9, e9⟩ := hC
      cases hv9
      refine xx_cst (st2 := [.long (lN (yb_w w.natAbs k))]) rfl ?_
      rw [e9]
      refine xx_goto (tgt := 43) dX8_part_29 (by decide) ?_
      exact xx_lret dX8_part_43 rfl (Or.inl ⟨⟨k, hk, rfl, by rw [if_neg j15]⟩, rfl⟩)
  · exact xx_throwS xx_thw_ioe (List.mem_of_getElem? (i := 12) rfl) rfl dX8_part_4 dX8_part_7 dX8_part_8 dX8_part_10 dX8_part_13 (by decide) (by decide) (fun n9 hn9 => Or.inr ⟨Int32.not_le.mp j1, rfl, hn9, rfl⟩)
/-! ===== the reference's part ===== -/
def yr_p (v j : Nat) : Nat := v / 65536 ^ j % 65536
theorem yr_p_v {D : Nat → Nat} {j : Nat} : ∀ {n : Nat}, (∀ i, i < n → D i < 65536) → yr_p (yy_val 65536 D n) j = if j < n then D j else 0
  | 0, _ => by unfold yr_p; rw [if_neg (Nat.not_lt_zero j)]; show 0 / _ % _ = 0; rw [Nat.zero_div]
  | n + 1, h => by
    have ih := yr_p_v (j := j) (n := n) (fun i hi => h i (by omega))
    have lt := yy_val_lt (β := 65536) (D := D) (n := n) (fun i hi => h i (by omega))
    have hn := h n (by omega)
    show (yy_val 65536 D n + D n * 65536 ^ n) / 65536 ^ j % 65536 = _
    rcases Nat.lt_trichotomy j n with z | z | z
    · obtain ⟨r, hr⟩ : ∃ r, n = j + 1 + r := ⟨n - j - 1, by omega⟩
      rw [if_pos (by omega)]
      rw [if_pos z] at ih
      rw [show D n * 65536 ^ n = (D n * 65536 ^ r * 65536) * 65536 ^ j by rw [hr, Nat.pow_add, Nat.pow_add, Nat.pow_one, Nat.mul_comm (65536 ^ j) 65536, Nat.mul_right_comm 65536 (65536 ^ j) (65536 ^ r), ← Nat.mul_assoc, ← Nat.mul_assoc, Nat.mul_right_comm (D (j + 1 + r)) 65536 (65536 ^ r)], Nat.add_mul_div_right _ _ (Nat.pow_pos (by decide)), Nat.add_mul_mod_self_right]
      exact ih
    · subst z
      rw [if_pos (by omega), Nat.add_mul_div_right _ _ (Nat.pow_pos (by decide)), Nat.div_eq_of_lt lt, Nat.zero_add, Nat.mod_eq_of_lt hn]
    · rw [if_neg (by omega), Nat.div_eq_of_lt, Nat.zero_mod]
      have h1 : (D n + 1) * 65536 ^ n ≤ 65536 * 65536 ^ n := Nat.mul_le_mul_right _ hn
      have h2 : 65536 * 65536 ^ n ≤ 65536 ^ j := by rw [Nat.mul_comm, ← Nat.pow_succ]; exact Nat.pow_le_pow_right (by decide) z
      rw [Nat.add_mul, Nat.one_mul] at h1
      omega
theorem yr_4 (v k : Nat) : ((yr_p v (4 * k + 3) * 65536 + yr_p v (4 * k + 2)) * 65536 + yr_p v (4 * k + 1)) * 65536 + yr_p v (4 * k + 0) = yb_w v k := by
  have e : (65536 : Nat) ^ (4 * k) = 2 ^ (64 * k) := by rw [show (65536 : Nat) = 2 ^ 16 from rfl, ← Nat.pow_mul]; congr 1; omega
  have d : ∀ j, v / 65536 ^ (4 * k + j) = v / 2 ^ (64 * k) / 65536 ^ j := fun j => by rw [Nat.pow_add, e, Nat.div_div_eq_div_mul]
  unfold yr_p yb_w
  rw [d 3, d 2, d 1, d 0]
  generalize v / 2 ^ (64 * k) = x
  simp only [Nat.pow_zero, Nat.div_one, Nat.pow_one, show (65536 : Nat) ^ 2 = 4294967296 from rfl, show (65536 : Nat) ^ 3 = 281474976710656 from rfl, show (2 : Nat) ^ 64 = 18446744073709551616 from rfl]
  omega
theorem yr_or {v p : Nat} (hp : p < 65536) : v * 65536 ||| p = v * 65536 + p := by
  rw [Nat.or_comm, show v * 65536 = v * 2 ^ 16 from rfl, yb_or2 (s := 16) hp, Nat.add_comm]
theorem xx_rw.pt {B : xx_H} {b r : Nat} {N : Nat → Int} (H : xx_rw B b N) (hr : r < 1740) : ∃ f g len, B.2 (b + 1) = xx_i 69600 f ∧ B.2 (b + 2) = xx_i 1740 g ∧ g r = nI len ∧ len ≤ 40 ∧ (∀ j, j < len → f (40 * r + j) = nI (yr_p (N r).natAbs j)) ∧ (∀ j, len ≤ j → yr_p (N r).natAbs j = 0) ∧ ∀ k, 20 ≤ k → yb_w (N r).natAbs k = 0 := by
  obtain ⟨⟨f, g, h, a1, a2, a3, a4⟩, _⟩ := H
  obtain ⟨_, len, c1, c2, D, c3, c4, c5⟩ := a4 r hr
  have hD : ∀ i, i < len → D i < 65536 := fun i hi => (c3 i hi).1
  refine ⟨f, g, len, a1, a2, c1, c2, fun j hj => ?_, fun j hj => ?_, fun k hk => yb_w0 (i := 640) ?_ (by omega)⟩
  · rw [c5, yr_p_v hD, if_pos hj]; exact (c3 j hj).2
  · rw [c5, yr_p_v hD, if_neg (by omega)]
  · rw [c5]
    exact Nat.lt_of_lt_of_le (yy_val_lt hD) (Nat.le_trans (Nat.pow_le_pow_right (by decide) c2) (by decide +kernel))
set_option maxRecDepth 100000 in
theorem c_X9_part {G : xx_G} {l : Launch} {A : xx_H} {b : Nat} {th hr st hl en tu : Value} {m n : Nat} {N : Nat → Int} {bl x : Int32} (hb : A.2 b = xx_o 9 (xx_mf b th (.int (nI m)) (.int (nI n)) hr st hl en tu)) (hN : xx_rw A b N) : xx_X G l mX9_part 0 0 0 0 (lv_args 0 [.ref b, .int bl, .int x]) [] A (fun z B => B.1 = A.1 ∧ (∀ q, q ≠ b → B.2 q = A.2 q) ∧ (((∃ k, k < 2 ^ 31 ∧ x = nI k ∧ z = .inl (some (.long (lN (yb_w (if bl = 0 then N 16 else N 17).natAbs k))))) ∧ B.2 b = xx_o 9 (xx_mf b (.int 0) (.int (nI m)) (.int (nI n)) hr st hl en tu)) ∨ (x < 0 ∧ z = .inl (some (.long 0)) ∧ B.2 b = xx_o 9 (xx_mf b (.int 1) (.int (nI m)) (.int (nI n)) hr st hl en tu)))) := by
  obtain ⟨R9, hR9⟩ : ∃ r, r = if bl = 0 then 16 else 17 := ⟨_, rfl⟩
  have R17 : R9 ≤ 17 := by rw [hR9]; split <;> decide
  have hNR : (if bl = 0 then N 16 else N 17) = N R9 := by rw [hR9]; split <;> rfl
  rw [hNR]
  obtain ⟨f, g, len, p1, p2, p3, p4, p5, p6, p7⟩ := hN.pt (r := R9) (by omega)
  refine xx_clv (lv2 := [(0, .ref b), (1, .int bl), (2, .int x)]) rfl ?_
  refine xx_aload_n dX9_part_0 rfl ?_
  refine xx_iload_n dX9_part_1 rfl ?_
  refine xx_if_ge (tgt := 9) dX9_part_2 (by decide) (fun j2 => ?_) (fun j2 => ?_)
  · refine xx_iconst (v := 0) dX9_part_9 (by decide) ?_
    refine xx_put xx_c9 dX9_part_10 wf_X9_84 (j := 0) (by decide) rfl rfl rfl hb (Nat.le_of_ble_eq_true rfl) (xx_gu fun Eq1 zq1 hbq1 oq1 => ?_)
    have hbq1 : Eq1.2 b = xx_o 9 (xx_mf b (.int 0) (.int (nI m)) (.int (nI n)) hr st hl en tu) := hbq1
    obtain ⟨k, hk, ek⟩ := nI_of (Int32.not_lt.mpr j2)
    subst ek
    refine xx_clv (lv2 := [(0, .ref b), (1, .int bl), (2, .int (nI k))]) rfl ?_
    refine xx_lconst (v := 0) dX9_part_13 (by decide) ?_
    refine xx_lstore_n dX9_part_14 (by decide) ?_
    refine xx_clv (lv2 := [(0, .ref b), (1, .int bl), (2, .int (nI k)), (3, .long 0)]) rfl ?_
    refine xx_iload_n dX9_part_15 rfl ?_
    refine xx_if_eq (tgt := 24) dX9_part_16 (by decide) (fun j16 => ?_) (fun j16 => ?_)
    · refine xx_bipush (v := 16) dX9_part_24 (by decide) ?_
      refine xx_cst (st2 := [.int (nI R9)]) (by rw [hR9, if_pos j16]; rfl) ?_
      refine xx_istore dX9_part_26 (by decide) ?_
      refine xx_clv (lv2 := [(0, .ref b), (1, .int bl), (2, .int (nI k)), (3, .long 0), (5, .int (nI R9))]) rfl ?_
      refine xx_iconst (v := 3) dX9_part_28 (by decide) ?_
      refine xx_istore dX9_part_29 (by decide) ?_
      refine xx_clv (lv2 := [(0, .ref b), (1, .int bl), (2, .int (nI k)), (3, .long 0), (5, .int (nI R9)), (6, .int 3)]) rfl ?_
      refine xx_iload dX9_part_31 rfl ?_
      refine xx_if_lt (tgt := 99) dX9_part_33 (by decide) (fun h => absurd h (by decide)) (fun j33 => ?_)
      refine xx_aload_n dX9_part_36 rfl ?_
      refine xx_get xx_c9 dX9_part_37 wf_X9_84 (j := 0) (by decide) hbq1 rfl ?_
      refine xx_if_ne (tgt := 99) dX9_part_40 (by decide) (fun h => absurd rfl h) (fun j40 => ?_)
      refine xx_iload_n dX9_part_43 rfl ?_
      refine xx_bipush (v := 20) dX9_part_44 (by decide) ?_
      refine xx_icmp_ge (tgt := 99) dX9_part_46 (by decide) (fun j46 => ?_) (fun j46 => ?_)
      · have j46 : 20 ≤ k := (nI_leI (a := 20) (b := k) (by omega) (by omega)).mp j46
        refine xx_lload_n dX9_part_99 rfl ?_
        exact xx_lret dX9_part_100 rfl ⟨zq1, oq1, Or.inl ⟨⟨k, hk, rfl, by rw [p7 k (by omega)]; rfl⟩, hbq1⟩⟩
      · have j46 : ¬ 20 ≤ k := fun hq9 => j46 ((nI_leI (a := 20) (b := k) (by omega) (by omega)).mpr hq9)
        refine xx_iconst (v := 4) dX9_part_49 (by decide) ?_
        refine xx_iload_n dX9_part_50 rfl ?_
        refine xx_imul dX9_part_51 ?_
        refine xx_eqi (y := nI (4 * k)) (pk_mul 4 k) ?_
        refine xx_iload dX9_part_52 rfl ?_
        refine xx_iadd dX9_part_54 ?_
        refine xx_eqi (y := nI (4 * k + 3)) (nI_add (4 * k) 3) ?_
        refine xx_istore dX9_part_55 (by decide) ?_
        refine xx_clv (lv2 := [(0, .ref b), (1, .int bl), (2, .int (nI k)), (3, .long 0), (5, .int (nI R9)), (6, .int 3), (7, .int (nI (4 * k + 3)))]) rfl ?_
        refine xx_lload_n dX9_part_57 rfl ?_
        refine xx_bipush (v := 16) dX9_part_58 (by decide) ?_
        refine xx_lshl dX9_part_60 ?_
        refine xx_eql (y := lN (0 * 65536)) (by decide) ?_
        refine xx_iload dX9_part_61 rfl ?_
        refine xx_aload_n dX9_part_63 rfl ?_
        refine xx_get xx_c9 dX9_part_64 wf_X9_14 (j := 2) (by decide) hbq1 rfl ?_
        refine xx_iload dX9_part_67 rfl ?_
        refine xx_iald dX9_part_69 ((oq1 (b + 2) (by omega)).trans p2) (vp_in_nI (by omega) (by decide)) ?_
        refine xx_eqi (y := nI len) (by rw [nI_clamp (by omega)]; exact p3) ?_
        refine xx_icmp_ge (tgt := 89) dX9_part_70 (by decide) (fun j70 => ?_) (fun j70 => ?_)
        · have j70 : len ≤ 4 * k + 3 := (nI_leI (a := len) (b := 4 * k + 3) (by omega) (by omega)).mp j70
          refine xx_iconst (v := 0) dX9_part_89 (by decide) ?_
          have lt9 : yr_p (N R9).natAbs (4 * k + 3) < 65536 := Nat.mod_lt _ (by decide)
          refine xx_cst (st2 := [.int (nI (yr_p (N R9).natAbs (4 * k + 3))), .long (lN (0 * 65536))]) (by rw [p6 (4 * k + 3) (by omega)]; rfl) ?_
          refine xx_i2l dX9_part_90 ?_
          refine xx_eql (y := lN (yr_p (N R9).natAbs (4 * k + 3))) (nI_l (by omega)) ?_
          refine xx_lor dX9_part_91 ?_
          obtain ⟨vv3, ev3⟩ : ∃ v, v = 0 * 65536 + yr_p (N R9).natAbs (4 * k + 3) := ⟨_, rfl⟩
          have lv3 : vv3 < 65536 := by omega
          refine xx_eql (y := lN vv3) (by rw [wb_or (by decide) (by omega), yr_or lt9, ev3]) ?_
          refine xx_lstore_n dX9_part_92 (by decide) ?_
          refine xx_clv (lv2 := [(0, .ref b), (1, .int bl), (2, .int (nI k)), (3, .long (lN vv3)), (5, .int (nI R9)), (6, .int 3), (7, .int (nI (4 * k + 3)))]) rfl ?_
          refine xx_iinc (v := 2) dX9_part_93 rfl (by decide) (by decide) ?_
          refine xx_clv (lv2 := [(0, .ref b), (1, .int bl), (2, .int (nI k)), (3, .long (lN vv3)), (5, .int (nI R9)), (6, .int 2), (7, .int (nI (4 * k + 3)))]) rfl ?_
          refine xx_goto (tgt := 31) dX9_part_96 (by decide) ?_
          refine xx_iload dX9_part_31 rfl ?_
          refine xx_if_lt (tgt := 99) dX9_part_33 (by decide) (fun h => absurd h (by decide)) (fun j33 => ?_)
          refine xx_aload_n dX9_part_36 rfl ?_
          refine xx_get xx_c9 dX9_part_37 wf_X9_84 (j := 0) (by decide) hbq1 rfl ?_
          refine xx_if_ne (tgt := 99) dX9_part_40 (by decide) (fun h => absurd rfl h) (fun j40 => ?_)
          refine xx_iload_n dX9_part_43 rfl ?_
          refine xx_bipush (v := 20) dX9_part_44 (by decide) ?_
          refine xx_icmp_ge (tgt := 99) dX9_part_46 (by decide) (fun h => absurd h (nI_ge (a := k) (b := 20) (by omega) (by omega))) (fun j46 => ?_)
          refine xx_iconst (v := 4) dX9_part_49 (by decide) ?_
          refine xx_iload_n dX9_part_50 rfl ?_
          refine xx_imul dX9_part_51 ?_
          refine xx_eqi (y := nI (4 * k)) (pk_mul 4 k) ?_
          refine xx_iload dX9_part_52 rfl ?_
          refine xx_iadd dX9_part_54 ?_
          refine xx_eqi (y := nI (4 * k + 2)) (nI_add (4 * k) 2) ?_
          refine xx_istore dX9_part_55 (by decide) ?_
          refine xx_clv (lv2 := [(0, .ref b), (1, .int bl), (2, .int (nI k)), (3, .long (lN vv3)), (5, .int (nI R9)), (6, .int 2), (7, .int (nI (4 * k + 2)))]) rfl ?_
          refine xx_lload_n dX9_part_57 rfl ?_
          refine xx_bipush (v := 16) dX9_part_58 (by decide) ?_
          refine xx_lshl dX9_part_60 ?_
          refine xx_eql (y := lN (vv3 * 65536)) (wb_shl _ (k := 16) (by decide)) ?_
          refine xx_iload dX9_part_61 rfl ?_
          refine xx_aload_n dX9_part_63 rfl ?_
          refine xx_get xx_c9 dX9_part_64 wf_X9_14 (j := 2) (by decide) hbq1 rfl ?_
          refine xx_iload dX9_part_67 rfl ?_
          refine xx_iald dX9_part_69 ((oq1 (b + 2) (by omega)).trans p2) (vp_in_nI (by omega) (by decide)) ?_
          refine xx_eqi (y := nI len) (by rw [nI_clamp (by omega)]; exact p3) ?_
          refine xx_icmp_ge (tgt := 89) dX9_part_70 (by decide) (fun j70 => ?_) (fun j70 => ?_)
          · have j70 : len ≤ 4 * k + 2 := (nI_leI (a := len) (b := 4 * k + 2) (by omega) (by omega)).mp j70
            refine xx_iconst (v := 0) dX9_part_89 (by decide) ?_
            have lt9 : yr_p (N R9).natAbs (4 * k + 2) < 65536 := Nat.mod_lt _ (by decide)
            refine xx_cst (st2 := [.int (nI (yr_p (N R9).natAbs (4 * k + 2))), .long (lN (vv3 * 65536))]) (by rw [p6 (4 * k + 2) (by omega)]; rfl) ?_
            refine xx_i2l dX9_part_90 ?_
            refine xx_eql (y := lN (yr_p (N R9).natAbs (4 * k + 2))) (nI_l (by omega)) ?_
            refine xx_lor dX9_part_91 ?_
            obtain ⟨vv2, ev2⟩ : ∃ v, v = vv3 * 65536 + yr_p (N R9).natAbs (4 * k + 2) := ⟨_, rfl⟩
            have lv2 : vv2 < 4294967296 := by omega
            refine xx_eql (y := lN vv2) (by rw [wb_or (by omega) (by omega), yr_or lt9, ev2]) ?_
            refine xx_lstore_n dX9_part_92 (by decide) ?_
            refine xx_clv (lv2 := [(0, .ref b), (1, .int bl), (2, .int (nI k)), (3, .long (lN vv2)), (5, .int (nI R9)), (6, .int 2), (7, .int (nI (4 * k + 2)))]) rfl ?_
            refine xx_iinc (v := 1) dX9_part_93 rfl (by decide) (by decide) ?_
            refine xx_clv (lv2 := [(0, .ref b), (1, .int bl), (2, .int (nI k)), (3, .long (lN vv2)), (5, .int (nI R9)), (6, .int 1), (7, .int (nI (4 * k + 2)))]) rfl ?_
            refine xx_goto (tgt := 31) dX9_part_96 (by decide) ?_
            refine xx_iload dX9_part_31 rfl ?_
            refine xx_if_lt (tgt := 99) dX9_part_33 (by decide) (fun h => absurd h (by decide)) (fun j33 => ?_)
            refine xx_aload_n dX9_part_36 rfl ?_
            refine xx_get xx_c9 dX9_part_37 wf_X9_84 (j := 0) (by decide) hbq1 rfl ?_
            refine xx_if_ne (tgt := 99) dX9_part_40 (by decide) (fun h => absurd rfl h) (fun j40 => ?_)
            refine xx_iload_n dX9_part_43 rfl ?_
            refine xx_bipush (v := 20) dX9_part_44 (by decide) ?_
            refine xx_icmp_ge (tgt := 99) dX9_part_46 (by decide) (fun h => absurd h (nI_ge (a := k) (b := 20) (by omega) (by omega))) (fun j46 => ?_)
            refine xx_iconst (v := 4) dX9_part_49 (by decide) ?_
            refine xx_iload_n dX9_part_50 rfl ?_
            refine xx_imul dX9_part_51 ?_
            refine xx_eqi (y := nI (4 * k)) (pk_mul 4 k) ?_
            refine xx_iload dX9_part_52 rfl ?_
            refine xx_iadd dX9_part_54 ?_
            refine xx_eqi (y := nI (4 * k + 1)) (nI_add (4 * k) 1) ?_
            refine xx_istore dX9_part_55 (by decide) ?_
            refine xx_clv (lv2 := [(0, .ref b), (1, .int bl), (2, .int (nI k)), (3, .long (lN vv2)), (5, .int (nI R9)), (6, .int 1), (7, .int (nI (4 * k + 1)))]) rfl ?_
            refine xx_lload_n dX9_part_57 rfl ?_
            refine xx_bipush (v := 16) dX9_part_58 (by decide) ?_
            refine xx_lshl dX9_part_60 ?_
            refine xx_eql (y := lN (vv2 * 65536)) (wb_shl _ (k := 16) (by decide)) ?_
            refine xx_iload dX9_part_61 rfl ?_
            refine xx_aload_n dX9_part_63 rfl ?_
            refine xx_get xx_c9 dX9_part_64 wf_X9_14 (j := 2) (by decide) hbq1 rfl ?_
            refine xx_iload dX9_part_67 rfl ?_
            refine xx_iald dX9_part_69 ((oq1 (b + 2) (by omega)).trans p2) (vp_in_nI (by omega) (by decide)) ?_
            refine xx_eqi (y := nI len) (by rw [nI_clamp (by omega)]; exact p3) ?_
            refine xx_icmp_ge (tgt := 89) dX9_part_70 (by decide) (fun j70 => ?_) (fun j70 => ?_)
            · have j70 : len ≤ 4 * k + 1 := (nI_leI (a := len) (b := 4 * k + 1) (by omega) (by omega)).mp j70
              refine xx_iconst (v := 0) dX9_part_89 (by decide) ?_
              have lt9 : yr_p (N R9).natAbs (4 * k + 1) < 65536 := Nat.mod_lt _ (by decide)
              refine xx_cst (st2 := [.int (nI (yr_p (N R9).natAbs (4 * k + 1))), .long (lN (vv2 * 65536))]) (by rw [p6 (4 * k + 1) (by omega)]; rfl) ?_
              refine xx_i2l dX9_part_90 ?_
              refine xx_eql (y := lN (yr_p (N R9).natAbs (4 * k + 1))) (nI_l (by omega)) ?_
              refine xx_lor dX9_part_91 ?_
              obtain ⟨vv1, ev1⟩ : ∃ v, v = vv2 * 65536 + yr_p (N R9).natAbs (4 * k + 1) := ⟨_, rfl⟩
              have lv1 : vv1 < 281474976710656 := by omega
              refine xx_eql (y := lN vv1) (by rw [wb_or (by omega) (by omega), yr_or lt9, ev1]) ?_
              refine xx_lstore_n dX9_part_92 (by decide) ?_
              refine xx_clv (lv2 := [(0, .ref b), (1, .int bl), (2, .int (nI k)), (3, .long (lN vv1)), (5, .int (nI R9)), (6, .int 1), (7, .int (nI (4 * k + 1)))]) rfl ?_
              refine xx_iinc (v := 0) dX9_part_93 rfl (by decide) (by decide) ?_
              refine xx_clv (lv2 := [(0, .ref b), (1, .int bl), (2, .int (nI k)), (3, .long (lN vv1)), (5, .int (nI R9)), (6, .int 0), (7, .int (nI (4 * k + 1)))]) rfl ?_
              refine xx_goto (tgt := 31) dX9_part_96 (by decide) ?_
              refine xx_iload dX9_part_31 rfl ?_
              refine xx_if_lt (tgt := 99) dX9_part_33 (by decide) (fun h => absurd h (by decide)) (fun j33 => ?_)
              refine xx_aload_n dX9_part_36 rfl ?_
              refine xx_get xx_c9 dX9_part_37 wf_X9_84 (j := 0) (by decide) hbq1 rfl ?_
              refine xx_if_ne (tgt := 99) dX9_part_40 (by decide) (fun h => absurd rfl h) (fun j40 => ?_)
              refine xx_iload_n dX9_part_43 rfl ?_
              refine xx_bipush (v := 20) dX9_part_44 (by decide) ?_
              refine xx_icmp_ge (tgt := 99) dX9_part_46 (by decide) (fun h => absurd h (nI_ge (a := k) (b := 20) (by omega) (by omega))) (fun j46 => ?_)
              refine xx_iconst (v := 4) dX9_part_49 (by decide) ?_
              refine xx_iload_n dX9_part_50 rfl ?_
              refine xx_imul dX9_part_51 ?_
              refine xx_eqi (y := nI (4 * k)) (pk_mul 4 k) ?_
              refine xx_iload dX9_part_52 rfl ?_
              refine xx_iadd dX9_part_54 ?_
              refine xx_eqi (y := nI (4 * k + 0)) (nI_add (4 * k) 0) ?_
              refine xx_istore dX9_part_55 (by decide) ?_
              refine xx_clv (lv2 := [(0, .ref b), (1, .int bl), (2, .int (nI k)), (3, .long (lN vv1)), (5, .int (nI R9)), (6, .int 0), (7, .int (nI (4 * k + 0)))]) rfl ?_
              refine xx_lload_n dX9_part_57 rfl ?_
              refine xx_bipush (v := 16) dX9_part_58 (by decide) ?_
              refine xx_lshl dX9_part_60 ?_
              refine xx_eql (y := lN (vv1 * 65536)) (wb_shl _ (k := 16) (by decide)) ?_
              refine xx_iload dX9_part_61 rfl ?_
              refine xx_aload_n dX9_part_63 rfl ?_
              refine xx_get xx_c9 dX9_part_64 wf_X9_14 (j := 2) (by decide) hbq1 rfl ?_
              refine xx_iload dX9_part_67 rfl ?_
              refine xx_iald dX9_part_69 ((oq1 (b + 2) (by omega)).trans p2) (vp_in_nI (by omega) (by decide)) ?_
              refine xx_eqi (y := nI len) (by rw [nI_clamp (by omega)]; exact p3) ?_
              refine xx_icmp_ge (tgt := 89) dX9_part_70 (by decide) (fun j70 => ?_) (fun j70 => ?_)
              · have j70 : len ≤ 4 * k + 0 := (nI_leI (a := len) (b := 4 * k + 0) (by omega) (by omega)).mp j70
                refine xx_iconst (v := 0) dX9_part_89 (by decide) ?_
                have lt9 : yr_p (N R9).natAbs (4 * k + 0) < 65536 := Nat.mod_lt _ (by decide)
                refine xx_cst (st2 := [.int (nI (yr_p (N R9).natAbs (4 * k + 0))), .long (lN (vv1 * 65536))]) (by rw [p6 (4 * k + 0) (by omega)]; rfl) ?_
                refine xx_i2l dX9_part_90 ?_
                refine xx_eql (y := lN (yr_p (N R9).natAbs (4 * k + 0))) (nI_l (by omega)) ?_
                refine xx_lor dX9_part_91 ?_
                obtain ⟨vv0, ev0⟩ : ∃ v, v = vv1 * 65536 + yr_p (N R9).natAbs (4 * k + 0) := ⟨_, rfl⟩
                have lv0 : vv0 < 18446744073709551616 := by omega
                refine xx_eql (y := lN vv0) (by rw [wb_or (by omega) (by omega), yr_or lt9, ev0]) ?_
                refine xx_lstore_n dX9_part_92 (by decide) ?_
                refine xx_clv (lv2 := [(0, .ref b), (1, .int bl), (2, .int (nI k)), (3, .long (lN vv0)), (5, .int (nI R9)), (6, .int 0), (7, .int (nI (4 * k + 0)))]) rfl ?_
                refine xx_iinc (v := (-1)) dX9_part_93 rfl (by decide) (by decide) ?_
                refine xx_clv (lv2 := [(0, .ref b), (1, .int bl), (2, .int (nI k)), (3, .long (lN vv0)), (5, .int (nI R9)), (6, .int (-1)), (7, .int (nI (4 * k + 0)))]) rfl ?_
                refine xx_goto (tgt := 31) dX9_part_96 (by decide) ?_
                refine xx_iload dX9_part_31 rfl ?_
                refine xx_if_lt (tgt := 99) dX9_part_33 (by decide) (fun j33 => ?_) (fun h => absurd (by decide) h)
                refine xx_lload_n dX9_part_99 rfl ?_
                exact xx_lret dX9_part_100 rfl ⟨zq1, oq1, Or.inl ⟨⟨k, hk, rfl, by rw [← yr_4, ev0, ev1, ev2, ev3, Nat.zero_mul, Nat.zero_add]⟩, hbq1⟩⟩
              · have j70 : ¬ len ≤ 4 * k + 0 := fun hq9 => j70 ((nI_leI (a := len) (b := 4 * k + 0) (by omega) (by omega)).mpr hq9)
                refine xx_aload_n dX9_part_73 rfl ?_
                refine xx_get xx_c9 dX9_part_74 wf_X9_8 (j := 1) (by decide) hbq1 rfl ?_
                refine xx_bipush (v := 40) dX9_part_77 (by decide) ?_
                refine xx_iload dX9_part_79 rfl ?_
                refine xx_imul dX9_part_81 ?_
                refine xx_eqi (y := nI (40 * R9)) (pk_mul 40 R9) ?_
                refine xx_iload dX9_part_82 rfl ?_
                refine xx_iadd dX9_part_84 ?_
                refine xx_eqi (y := nI (40 * R9 + (4 * k + 0))) (nI_add (40 * R9) (4 * k + 0)) ?_
                refine xx_iald dX9_part_85 ((oq1 (b + 1) (by omega)).trans p1) (vp_in_nI (by omega) (by decide)) ?_
                refine xx_eqi (y := nI (yr_p (N R9).natAbs (4 * k + 0))) (by rw [nI_clamp (by omega)]; exact p5 _ (by omega)) ?_
                refine xx_goto (tgt := 90) dX9_part_86 (by decide) ?_
                have lt9 : yr_p (N R9).natAbs (4 * k + 0) < 65536 := Nat.mod_lt _ (by decide)
                refine xx_i2l dX9_part_90 ?_
                refine xx_eql (y := lN (yr_p (N R9).natAbs (4 * k + 0))) (nI_l (by omega)) ?_
                refine xx_lor dX9_part_91 ?_
                obtain ⟨vv0, ev0⟩ : ∃ v, v = vv1 * 65536 + yr_p (N R9).natAbs (4 * k + 0) := ⟨_, rfl⟩
                have lv0 : vv0 < 18446744073709551616 := by omega
                refine xx_eql (y := lN vv0) (by rw [wb_or (by omega) (by omega), yr_or lt9, ev0]) ?_
                refine xx_lstore_n dX9_part_92 (by decide) ?_
                refine xx_clv (lv2 := [(0, .ref b), (1, .int bl), (2, .int (nI k)), (3, .long (lN vv0)), (5, .int (nI R9)), (6, .int 0), (7, .int (nI (4 * k + 0)))]) rfl ?_
                refine xx_iinc (v := (-1)) dX9_part_93 rfl (by decide) (by decide) ?_
                refine xx_clv (lv2 := [(0, .ref b), (1, .int bl), (2, .int (nI k)), (3, .long (lN vv0)), (5, .int (nI R9)), (6, .int (-1)), (7, .int (nI (4 * k + 0)))]) rfl ?_
                refine xx_goto (tgt := 31) dX9_part_96 (by decide) ?_
                refine xx_iload dX9_part_31 rfl ?_
                refine xx_if_lt (tgt := 99) dX9_part_33 (by decide) (fun j33 => ?_) (fun h => absurd (by decide) h)
                refine xx_lload_n dX9_part_99 rfl ?_
                exact xx_lret dX9_part_100 rfl ⟨zq1, oq1, Or.inl ⟨⟨k, hk, rfl, by rw [← yr_4, ev0, ev1, ev2, ev3, Nat.zero_mul, Nat.zero_add]⟩, hbq1⟩⟩
            · have j70 : ¬ len ≤ 4 * k + 1 := fun hq9 => j70 ((nI_leI (a := len) (b := 4 * k + 1) (by omega) (by omega)).mpr hq9)
              refine xx_aload_n dX9_part_73 rfl ?_
              refine xx_get xx_c9 dX9_part_74 wf_X9_8 (j := 1) (by decide) hbq1 rfl ?_
              refine xx_bipush (v := 40) dX9_part_77 (by decide) ?_
              refine xx_iload dX9_part_79 rfl ?_
              refine xx_imul dX9_part_81 ?_
              refine xx_eqi (y := nI (40 * R9)) (pk_mul 40 R9) ?_
              refine xx_iload dX9_part_82 rfl ?_
              refine xx_iadd dX9_part_84 ?_
              refine xx_eqi (y := nI (40 * R9 + (4 * k + 1))) (nI_add (40 * R9) (4 * k + 1)) ?_
              refine xx_iald dX9_part_85 ((oq1 (b + 1) (by omega)).trans p1) (vp_in_nI (by omega) (by decide)) ?_
              refine xx_eqi (y := nI (yr_p (N R9).natAbs (4 * k + 1))) (by rw [nI_clamp (by omega)]; exact p5 _ (by omega)) ?_
              refine xx_goto (tgt := 90) dX9_part_86 (by decide) ?_
              have lt9 : yr_p (N R9).natAbs (4 * k + 1) < 65536 := Nat.mod_lt _ (by decide)
              refine xx_i2l dX9_part_90 ?_
              refine xx_eql (y := lN (yr_p (N R9).natAbs (4 * k + 1))) (nI_l (by omega)) ?_
              refine xx_lor dX9_part_91 ?_
              obtain ⟨vv1, ev1⟩ : ∃ v, v = vv2 * 65536 + yr_p (N R9).natAbs (4 * k + 1) := ⟨_, rfl⟩
              have lv1 : vv1 < 281474976710656 := by omega
              refine xx_eql (y := lN vv1) (by rw [wb_or (by omega) (by omega), yr_or lt9, ev1]) ?_
              refine xx_lstore_n dX9_part_92 (by decide) ?_
              refine xx_clv (lv2 := [(0, .ref b), (1, .int bl), (2, .int (nI k)), (3, .long (lN vv1)), (5, .int (nI R9)), (6, .int 1), (7, .int (nI (4 * k + 1)))]) rfl ?_
              refine xx_iinc (v := 0) dX9_part_93 rfl (by decide) (by decide) ?_
              refine xx_clv (lv2 := [(0, .ref b), (1, .int bl), (2, .int (nI k)), (3, .long (lN vv1)), (5, .int (nI R9)), (6, .int 0), (7, .int (nI (4 * k + 1)))]) rfl ?_
              refine xx_goto (tgt := 31) dX9_part_96 (by decide) ?_
              refine xx_iload dX9_part_31 rfl ?_
              refine xx_if_lt (tgt := 99) dX9_part_33 (by decide) (fun h => absurd h (by decide)) (fun j33 => ?_)
              refine xx_aload_n dX9_part_36 rfl ?_
              refine xx_get xx_c9 dX9_part_37 wf_X9_84 (j := 0) (by decide) hbq1 rfl ?_
              refine xx_if_ne (tgt := 99) dX9_part_40 (by decide) (fun h => absurd rfl h) (fun j40 => ?_)
              refine xx_iload_n dX9_part_43 rfl ?_
              refine xx_bipush (v := 20) dX9_part_44 (by decide) ?_
              refine xx_icmp_ge (tgt := 99) dX9_part_46 (by decide) (fun h => absurd h (nI_ge (a := k) (b := 20) (by omega) (by omega))) (fun j46 => ?_)
              refine xx_iconst (v := 4) dX9_part_49 (by decide) ?_
              refine xx_iload_n dX9_part_50 rfl ?_
              refine xx_imul dX9_part_51 ?_
              refine xx_eqi (y := nI (4 * k)) (pk_mul 4 k) ?_
              refine xx_iload dX9_part_52 rfl ?_
              refine xx_iadd dX9_part_54 ?_
              refine xx_eqi (y := nI (4 * k + 0)) (nI_add (4 * k) 0) ?_
              refine xx_istore dX9_part_55 (by decide) ?_
              refine xx_clv (lv2 := [(0, .ref b), (1, .int bl), (2, .int (nI k)), (3, .long (lN vv1)), (5, .int (nI R9)), (6, .int 0), (7, .int (nI (4 * k + 0)))]) rfl ?_
              refine xx_lload_n dX9_part_57 rfl ?_
              refine xx_bipush (v := 16) dX9_part_58 (by decide) ?_
              refine xx_lshl dX9_part_60 ?_
              refine xx_eql (y := lN (vv1 * 65536)) (wb_shl _ (k := 16) (by decide)) ?_
              refine xx_iload dX9_part_61 rfl ?_
              refine xx_aload_n dX9_part_63 rfl ?_
              refine xx_get xx_c9 dX9_part_64 wf_X9_14 (j := 2) (by decide) hbq1 rfl ?_
              refine xx_iload dX9_part_67 rfl ?_
              refine xx_iald dX9_part_69 ((oq1 (b + 2) (by omega)).trans p2) (vp_in_nI (by omega) (by decide)) ?_
              refine xx_eqi (y := nI len) (by rw [nI_clamp (by omega)]; exact p3) ?_
              refine xx_icmp_ge (tgt := 89) dX9_part_70 (by decide) (fun j70 => ?_) (fun j70 => ?_)
              · have j70 : len ≤ 4 * k + 0 := (nI_leI (a := len) (b := 4 * k + 0) (by omega) (by omega)).mp j70
                refine xx_iconst (v := 0) dX9_part_89 (by decide) ?_
                have lt9 : yr_p (N R9).natAbs (4 * k + 0) < 65536 := Nat.mod_lt _ (by decide)
                refine xx_cst (st2 := [.int (nI (yr_p (N R9).natAbs (4 * k + 0))), .long (lN (vv1 * 65536))]) (by rw [p6 (4 * k + 0) (by omega)]; rfl) ?_
                refine xx_i2l dX9_part_90 ?_
                refine xx_eql (y := lN (yr_p (N R9).natAbs (4 * k + 0))) (nI_l (by omega)) ?_
                refine xx_lor dX9_part_91 ?_
                obtain ⟨vv0, ev0⟩ : ∃ v, v = vv1 * 65536 + yr_p (N R9).natAbs (4 * k + 0) := ⟨_, rfl⟩
                have lv0 : vv0 < 18446744073709551616 := by omega
                refine xx_eql (y := lN vv0) (by rw [wb_or (by omega) (by omega), yr_or lt9, ev0]) ?_
                refine xx_lstore_n dX9_part_92 (by decide) ?_
                refine xx_clv (lv2 := [(0, .ref b), (1, .int bl), (2, .int (nI k)), (3, .long (lN vv0)), (5, .int (nI R9)), (6, .int 0), (7, .int (nI (4 * k + 0)))]) rfl ?_
                refine xx_iinc (v := (-1)) dX9_part_93 rfl (by decide) (by decide) ?_
                refine xx_clv (lv2 := [(0, .ref b), (1, .int bl), (2, .int (nI k)), (3, .long (lN vv0)), (5, .int (nI R9)), (6, .int (-1)), (7, .int (nI (4 * k + 0)))]) rfl ?_
                refine xx_goto (tgt := 31) dX9_part_96 (by decide) ?_
                refine xx_iload dX9_part_31 rfl ?_
                refine xx_if_lt (tgt := 99) dX9_part_33 (by decide) (fun j33 => ?_) (fun h => absurd (by decide) h)
                refine xx_lload_n dX9_part_99 rfl ?_
                exact xx_lret dX9_part_100 rfl ⟨zq1, oq1, Or.inl ⟨⟨k, hk, rfl, by rw [← yr_4, ev0, ev1, ev2, ev3, Nat.zero_mul, Nat.zero_add]⟩, hbq1⟩⟩
              · have j70 : ¬ len ≤ 4 * k + 0 := fun hq9 => j70 ((nI_leI (a := len) (b := 4 * k + 0) (by omega) (by omega)).mpr hq9)
                refine xx_aload_n dX9_part_73 rfl ?_
                refine xx_get xx_c9 dX9_part_74 wf_X9_8 (j := 1) (by decide) hbq1 rfl ?_
                refine xx_bipush (v := 40) dX9_part_77 (by decide) ?_
                refine xx_iload dX9_part_79 rfl ?_
                refine xx_imul dX9_part_81 ?_
                refine xx_eqi (y := nI (40 * R9)) (pk_mul 40 R9) ?_
                refine xx_iload dX9_part_82 rfl ?_
                refine xx_iadd dX9_part_84 ?_
                refine xx_eqi (y := nI (40 * R9 + (4 * k + 0))) (nI_add (40 * R9) (4 * k + 0)) ?_
                refine xx_iald dX9_part_85 ((oq1 (b + 1) (by omega)).trans p1) (vp_in_nI (by omega) (by decide)) ?_
                refine xx_eqi (y := nI (yr_p (N R9).natAbs (4 * k + 0))) (by rw [nI_clamp (by omega)]; exact p5 _ (by omega)) ?_
                refine xx_goto (tgt := 90) dX9_part_86 (by decide) ?_
                have lt9 : yr_p (N R9).natAbs (4 * k + 0) < 65536 := Nat.mod_lt _ (by decide)
                refine xx_i2l dX9_part_90 ?_
                refine xx_eql (y := lN (yr_p (N R9).natAbs (4 * k + 0))) (nI_l (by omega)) ?_
                refine xx_lor dX9_part_91 ?_
                obtain ⟨vv0, ev0⟩ : ∃ v, v = vv1 * 65536 + yr_p (N R9).natAbs (4 * k + 0) := ⟨_, rfl⟩
                have lv0 : vv0 < 18446744073709551616 := by omega
                refine xx_eql (y := lN vv0) (by rw [wb_or (by omega) (by omega), yr_or lt9, ev0]) ?_
                refine xx_lstore_n dX9_part_92 (by decide) ?_
                refine xx_clv (lv2 := [(0, .ref b), (1, .int bl), (2, .int (nI k)), (3, .long (lN vv0)), (5, .int (nI R9)), (6, .int 0), (7, .int (nI (4 * k + 0)))]) rfl ?_
                refine xx_iinc (v := (-1)) dX9_part_93 rfl (by decide) (by decide) ?_
                refine xx_clv (lv2 := [(0, .ref b), (1, .int bl), (2, .int (nI k)), (3, .long (lN vv0)), (5, .int (nI R9)), (6, .int (-1)), (7, .int (nI (4 * k + 0)))]) rfl ?_
                refine xx_goto (tgt := 31) dX9_part_96 (by decide) ?_
                refine xx_iload dX9_part_31 rfl ?_
                refine xx_if_lt (tgt := 99) dX9_part_33 (by decide) (fun j33 => ?_) (fun h => absurd (by decide) h)
                refine xx_lload_n dX9_part_99 rfl ?_
                exact xx_lret dX9_part_100 rfl ⟨zq1, oq1, Or.inl ⟨⟨k, hk, rfl, by rw [← yr_4, ev0, ev1, ev2, ev3, Nat.zero_mul, Nat.zero_add]⟩, hbq1⟩⟩
          · have j70 : ¬ len ≤ 4 * k + 2 := fun hq9 => j70 ((nI_leI (a := len) (b := 4 * k + 2) (by omega) (by omega)).mpr hq9)
            refine xx_aload_n dX9_part_73 rfl ?_
            refine xx_get xx_c9 dX9_part_74 wf_X9_8 (j := 1) (by decide) hbq1 rfl ?_
            refine xx_bipush (v := 40) dX9_part_77 (by decide) ?_
            refine xx_iload dX9_part_79 rfl ?_
            refine xx_imul dX9_part_81 ?_
            refine xx_eqi (y := nI (40 * R9)) (pk_mul 40 R9) ?_
            refine xx_iload dX9_part_82 rfl ?_
            refine xx_iadd dX9_part_84 ?_
            refine xx_eqi (y := nI (40 * R9 + (4 * k + 2))) (nI_add (40 * R9) (4 * k + 2)) ?_
            refine xx_iald dX9_part_85 ((oq1 (b + 1) (by omega)).trans p1) (vp_in_nI (by omega) (by decide)) ?_
            refine xx_eqi (y := nI (yr_p (N R9).natAbs (4 * k + 2))) (by rw [nI_clamp (by omega)]; exact p5 _ (by omega)) ?_
            refine xx_goto (tgt := 90) dX9_part_86 (by decide) ?_
            have lt9 : yr_p (N R9).natAbs (4 * k + 2) < 65536 := Nat.mod_lt _ (by decide)
            refine xx_i2l dX9_part_90 ?_
            refine xx_eql (y := lN (yr_p (N R9).natAbs (4 * k + 2))) (nI_l (by omega)) ?_
            refine xx_lor dX9_part_91 ?_
            obtain ⟨vv2, ev2⟩ : ∃ v, v = vv3 * 65536 + yr_p (N R9).natAbs (4 * k + 2) := ⟨_, rfl⟩
            have lv2 : vv2 < 4294967296 := by omega
            refine xx_eql (y := lN vv2) (by rw [wb_or (by omega) (by omega), yr_or lt9, ev2]) ?_
            refine xx_lstore_n dX9_part_92 (by decide) ?_
            refine xx_clv (lv2 := [(0, .ref b), (1, .int bl), (2, .int (nI k)), (3, .long (lN vv2)), (5, .int (nI R9)), (6, .int 2), (7, .int (nI (4 * k + 2)))]) rfl ?_
            refine xx_iinc (v := 1) dX9_part_93 rfl (by decide) (by decide) ?_
            refine xx_clv (lv2 := [(0, .ref b), (1, .int bl), (2, .int (nI k)), (3, .long (lN vv2)), (5, .int (nI R9)), (6, .int 1), (7, .int (nI (4 * k + 2)))]) rfl ?_
            refine xx_goto (tgt := 31) dX9_part_96 (by decide) ?_
            refine xx_iload dX9_part_31 rfl ?_
            refine xx_if_lt (tgt := 99) dX9_part_33 (by decide) (fun h => absurd h (by decide)) (fun j33 => ?_)
            refine xx_aload_n dX9_part_36 rfl ?_
            refine xx_get xx_c9 dX9_part_37 wf_X9_84 (j := 0) (by decide) hbq1 rfl ?_
            refine xx_if_ne (tgt := 99) dX9_part_40 (by decide) (fun h => absurd rfl h) (fun j40 => ?_)
            refine xx_iload_n dX9_part_43 rfl ?_
            refine xx_bipush (v := 20) dX9_part_44 (by decide) ?_
            refine xx_icmp_ge (tgt := 99) dX9_part_46 (by decide) (fun h => absurd h (nI_ge (a := k) (b := 20) (by omega) (by omega))) (fun j46 => ?_)
            refine xx_iconst (v := 4) dX9_part_49 (by decide) ?_
            refine xx_iload_n dX9_part_50 rfl ?_
            refine xx_imul dX9_part_51 ?_
            refine xx_eqi (y := nI (4 * k)) (pk_mul 4 k) ?_
            refine xx_iload dX9_part_52 rfl ?_
            refine xx_iadd dX9_part_54 ?_
            refine xx_eqi (y := nI (4 * k + 1)) (nI_add (4 * k) 1) ?_
            refine xx_istore dX9_part_55 (by decide) ?_
            refine xx_clv (lv2 := [(0, .ref b), (1, .int bl), (2, .int (nI k)), (3, .long (lN vv2)), (5, .int (nI R9)), (6, .int 1), (7, .int (nI (4 * k + 1)))]) rfl ?_
            refine xx_lload_n dX9_part_57 rfl ?_
            refine xx_bipush (v := 16) dX9_part_58 (by decide) ?_
            refine xx_lshl dX9_part_60 ?_
            refine xx_eql (y := lN (vv2 * 65536)) (wb_shl _ (k := 16) (by decide)) ?_
            refine xx_iload dX9_part_61 rfl ?_
            refine xx_aload_n dX9_part_63 rfl ?_
            refine xx_get xx_c9 dX9_part_64 wf_X9_14 (j := 2) (by decide) hbq1 rfl ?_
            refine xx_iload dX9_part_67 rfl ?_
            refine xx_iald dX9_part_69 ((oq1 (b + 2) (by omega)).trans p2) (vp_in_nI (by omega) (by decide)) ?_
            refine xx_eqi (y := nI len) (by rw [nI_clamp (by omega)]; exact p3) ?_
            refine xx_icmp_ge (tgt := 89) dX9_part_70 (by decide) (fun j70 => ?_) (fun j70 => ?_)
            · have j70 : len ≤ 4 * k + 1 := (nI_leI (a := len) (b := 4 * k + 1) (by omega) (by omega)).mp j70
              refine xx_iconst (v := 0) dX9_part_89 (by decide) ?_
              have lt9 : yr_p (N R9).natAbs (4 * k + 1) < 65536 := Nat.mod_lt _ (by decide)
              refine xx_cst (st2 := [.int (nI (yr_p (N R9).natAbs (4 * k + 1))), .long (lN (vv2 * 65536))]) (by rw [p6 (4 * k + 1) (by omega)]; rfl) ?_
              refine xx_i2l dX9_part_90 ?_
              refine xx_eql (y := lN (yr_p (N R9).natAbs (4 * k + 1))) (nI_l (by omega)) ?_
              refine xx_lor dX9_part_91 ?_
              obtain ⟨vv1, ev1⟩ : ∃ v, v = vv2 * 65536 + yr_p (N R9).natAbs (4 * k + 1) := ⟨_, rfl⟩
              have lv1 : vv1 < 281474976710656 := by omega
              refine xx_eql (y := lN vv1) (by rw [wb_or (by omega) (by omega), yr_or lt9, ev1]) ?_
              refine xx_lstore_n dX9_part_92 (by decide) ?_
              refine xx_clv (lv2 := [(0, .ref b), (1, .int bl), (2, .int (nI k)), (3, .long (lN vv1)), (5, .int (nI R9)), (6, .int 1), (7, .int (nI (4 * k + 1)))]) rfl ?_
              refine xx_iinc (v := 0) dX9_part_93 rfl (by decide) (by decide) ?_
              refine xx_clv (lv2 := [(0, .ref b), (1, .int bl), (2, .int (nI k)), (3, .long (lN vv1)), (5, .int (nI R9)), (6, .int 0), (7, .int (nI (4 * k + 1)))]) rfl ?_
              refine xx_goto (tgt := 31) dX9_part_96 (by decide) ?_
              refine xx_iload dX9_part_31 rfl ?_
              refine xx_if_lt (tgt := 99) dX9_part_33 (by decide) (fun h => absurd h (by decide)) (fun j33 => ?_)
              refine xx_aload_n dX9_part_36 rfl ?_
              refine xx_get xx_c9 dX9_part_37 wf_X9_84 (j := 0) (by decide) hbq1 rfl ?_
              refine xx_if_ne (tgt := 99) dX9_part_40 (by decide) (fun h => absurd rfl h) (fun j40 => ?_)
              refine xx_iload_n dX9_part_43 rfl ?_
              refine xx_bipush (v := 20) dX9_part_44 (by decide) ?_
              refine xx_icmp_ge (tgt := 99) dX9_part_46 (by decide) (fun h => absurd h (nI_ge (a := k) (b := 20) (by omega) (by omega))) (fun j46 => ?_)
              refine xx_iconst (v := 4) dX9_part_49 (by decide) ?_
              refine xx_iload_n dX9_part_50 rfl ?_
              refine xx_imul dX9_part_51 ?_
              refine xx_eqi (y := nI (4 * k)) (pk_mul 4 k) ?_
              refine xx_iload dX9_part_52 rfl ?_
              refine xx_iadd dX9_part_54 ?_
              refine xx_eqi (y := nI (4 * k + 0)) (nI_add (4 * k) 0) ?_
              refine xx_istore dX9_part_55 (by decide) ?_
              refine xx_clv (lv2 := [(0, .ref b), (1, .int bl), (2, .int (nI k)), (3, .long (lN vv1)), (5, .int (nI R9)), (6, .int 0), (7, .int (nI (4 * k + 0)))]) rfl ?_
              refine xx_lload_n dX9_part_57 rfl ?_
              refine xx_bipush (v := 16) dX9_part_58 (by decide) ?_
              refine xx_lshl dX9_part_60 ?_
              refine xx_eql (y := lN (vv1 * 65536)) (wb_shl _ (k := 16) (by decide)) ?_
              refine xx_iload dX9_part_61 rfl ?_
              refine xx_aload_n dX9_part_63 rfl ?_
              refine xx_get xx_c9 dX9_part_64 wf_X9_14 (j := 2) (by decide) hbq1 rfl ?_
              refine xx_iload dX9_part_67 rfl ?_
              refine xx_iald dX9_part_69 ((oq1 (b + 2) (by omega)).trans p2) (vp_in_nI (by omega) (by decide)) ?_
              refine xx_eqi (y := nI len) (by rw [nI_clamp (by omega)]; exact p3) ?_
              refine xx_icmp_ge (tgt := 89) dX9_part_70 (by decide) (fun j70 => ?_) (fun j70 => ?_)
              · have j70 : len ≤ 4 * k + 0 := (nI_leI (a := len) (b := 4 * k + 0) (by omega) (by omega)).mp j70
                refine xx_iconst (v := 0) dX9_part_89 (by decide) ?_
                have lt9 : yr_p (N R9).natAbs (4 * k + 0) < 65536 := Nat.mod_lt _ (by decide)
                refine xx_cst (st2 := [.int (nI (yr_p (N R9).natAbs (4 * k + 0))), .long (lN (vv1 * 65536))]) (by rw [p6 (4 * k + 0) (by omega)]; rfl) ?_
                refine xx_i2l dX9_part_90 ?_
                refine xx_eql (y := lN (yr_p (N R9).natAbs (4 * k + 0))) (nI_l (by omega)) ?_
                refine xx_lor dX9_part_91 ?_
                obtain ⟨vv0, ev0⟩ : ∃ v, v = vv1 * 65536 + yr_p (N R9).natAbs (4 * k + 0) := ⟨_, rfl⟩
                have lv0 : vv0 < 18446744073709551616 := by omega
                refine xx_eql (y := lN vv0) (by rw [wb_or (by omega) (by omega), yr_or lt9, ev0]) ?_
                refine xx_lstore_n dX9_part_92 (by decide) ?_
                refine xx_clv (lv2 := [(0, .ref b), (1, .int bl), (2, .int (nI k)), (3, .long (lN vv0)), (5, .int (nI R9)), (6, .int 0), (7, .int (nI (4 * k + 0)))]) rfl ?_
                refine xx_iinc (v := (-1)) dX9_part_93 rfl (by decide) (by decide) ?_
                refine xx_clv (lv2 := [(0, .ref b), (1, .int bl), (2, .int (nI k)), (3, .long (lN vv0)), (5, .int (nI R9)), (6, .int (-1)), (7, .int (nI (4 * k + 0)))]) rfl ?_
                refine xx_goto (tgt := 31) dX9_part_96 (by decide) ?_
                refine xx_iload dX9_part_31 rfl ?_
                refine xx_if_lt (tgt := 99) dX9_part_33 (by decide) (fun j33 => ?_) (fun h => absurd (by decide) h)
                refine xx_lload_n dX9_part_99 rfl ?_
                exact xx_lret dX9_part_100 rfl ⟨zq1, oq1, Or.inl ⟨⟨k, hk, rfl, by rw [← yr_4, ev0, ev1, ev2, ev3, Nat.zero_mul, Nat.zero_add]⟩, hbq1⟩⟩
              · have j70 : ¬ len ≤ 4 * k + 0 := fun hq9 => j70 ((nI_leI (a := len) (b := 4 * k + 0) (by omega) (by omega)).mpr hq9)
                refine xx_aload_n dX9_part_73 rfl ?_
                refine xx_get xx_c9 dX9_part_74 wf_X9_8 (j := 1) (by decide) hbq1 rfl ?_
                refine xx_bipush (v := 40) dX9_part_77 (by decide) ?_
                refine xx_iload dX9_part_79 rfl ?_
                refine xx_imul dX9_part_81 ?_
                refine xx_eqi (y := nI (40 * R9)) (pk_mul 40 R9) ?_
                refine xx_iload dX9_part_82 rfl ?_
                refine xx_iadd dX9_part_84 ?_
                refine xx_eqi (y := nI (40 * R9 + (4 * k + 0))) (nI_add (40 * R9) (4 * k + 0)) ?_
                refine xx_iald dX9_part_85 ((oq1 (b + 1) (by omega)).trans p1) (vp_in_nI (by omega) (by decide)) ?_
                refine xx_eqi (y := nI (yr_p (N R9).natAbs (4 * k + 0))) (by rw [nI_clamp (by omega)]; exact p5 _ (by omega)) ?_
                refine xx_goto (tgt := 90) dX9_part_86 (by decide) ?_
                have lt9 : yr_p (N R9).natAbs (4 * k + 0) < 65536 := Nat.mod_lt _ (by decide)
                refine xx_i2l dX9_part_90 ?_
                refine xx_eql (y := lN (yr_p (N R9).natAbs (4 * k + 0))) (nI_l (by omega)) ?_
                refine xx_lor dX9_part_91 ?_
                obtain ⟨vv0, ev0⟩ : ∃ v, v = vv1 * 65536 + yr_p (N R9).natAbs (4 * k + 0) := ⟨_, rfl⟩
                have lv0 : vv0 < 18446744073709551616 := by omega
                refine xx_eql (y := lN vv0) (by rw [wb_or (by omega) (by omega), yr_or lt9, ev0]) ?_
                refine xx_lstore_n dX9_part_92 (by decide) ?_
                refine xx_clv (lv2 := [(0, .ref b), (1, .int bl), (2, .int (nI k)), (3, .long (lN vv0)), (5, .int (nI R9)), (6, .int 0), (7, .int (nI (4 * k + 0)))]) rfl ?_
                refine xx_iinc (v := (-1)) dX9_part_93 rfl (by decide) (by decide) ?_
                refine xx_clv (lv2 := [(0, .ref b), (1, .int bl), (2, .int (nI k)), (3, .long (lN vv0)), (5, .int (nI R9)), (6, .int (-1)), (7, .int (nI (4 * k + 0)))]) rfl ?_
                refine xx_goto (tgt := 31) dX9_part_96 (by decide) ?_
                refine xx_iload dX9_part_31 rfl ?_
                refine xx_if_lt (tgt := 99) dX9_part_33 (by decide) (fun j33 => ?_) (fun h => absurd (by decide) h)
                refine xx_lload_n dX9_part_99 rfl ?_
                exact xx_lret dX9_part_100 rfl ⟨zq1, oq1, Or.inl ⟨⟨k, hk, rfl, by rw [← yr_4, ev0, ev1, ev2, ev3, Nat.zero_mul, Nat.zero_add]⟩, hbq1⟩⟩
            · have j70 : ¬ len ≤ 4 * k + 1 := fun hq9 => j70 ((nI_leI (a := len) (b := 4 * k + 1) (by omega) (by omega)).mpr hq9)
              refine xx_aload_n dX9_part_73 rfl ?_
              refine xx_get xx_c9 dX9_part_74 wf_X9_8 (j := 1) (by decide) hbq1 rfl ?_
              refine xx_bipush (v := 40) dX9_part_77 (by decide) ?_
              refine xx_iload dX9_part_79 rfl ?_
              refine xx_imul dX9_part_81 ?_
              refine xx_eqi (y := nI (40 * R9)) (pk_mul 40 R9) ?_
              refine xx_iload dX9_part_82 rfl ?_
              refine xx_iadd dX9_part_84 ?_
              refine xx_eqi (y := nI (40 * R9 + (4 * k + 1))) (nI_add (40 * R9) (4 * k + 1)) ?_
              refine xx_iald dX9_part_85 ((oq1 (b + 1) (by omega)).trans p1) (vp_in_nI (by omega) (by decide)) ?_
              refine xx_eqi (y := nI (yr_p (N R9).natAbs (4 * k + 1))) (by rw [nI_clamp (by omega)]; exact p5 _ (by omega)) ?_
              refine xx_goto (tgt := 90) dX9_part_86 (by decide) ?_
              have lt9 : yr_p (N R9).natAbs (4 * k + 1) < 65536 := Nat.mod_lt _ (by decide)
              refine xx_i2l dX9_part_90 ?_
              refine xx_eql (y := lN (yr_p (N R9).natAbs (4 * k + 1))) (nI_l (by omega)) ?_
              refine xx_lor dX9_part_91 ?_
              obtain ⟨vv1, ev1⟩ : ∃ v, v = vv2 * 65536 + yr_p (N R9).natAbs (4 * k + 1) := ⟨_, rfl⟩
              have lv1 : vv1 < 281474976710656 := by omega
              refine xx_eql (y := lN vv1) (by rw [wb_or (by omega) (by omega), yr_or lt9, ev1]) ?_
              refine xx_lstore_n dX9_part_92 (by decide) ?_
              refine xx_clv (lv2 := [(0, .ref b), (1, .int bl), (2, .int (nI k)), (3, .long (lN vv1)), (5, .int (nI R9)), (6, .int 1), (7, .int (nI (4 * k + 1)))]) rfl ?_
              refine xx_iinc (v := 0) dX9_part_93 rfl (by decide) (by decide) ?_
              refine xx_clv (lv2 := [(0, .ref b), (1, .int bl), (2, .int (nI k)), (3, .long (lN vv1)), (5, .int (nI R9)), (6, .int 0), (7, .int (nI (4 * k + 1)))]) rfl ?_
              refine xx_goto (tgt := 31) dX9_part_96 (by decide) ?_
              refine xx_iload dX9_part_31 rfl ?_
              refine xx_if_lt (tgt := 99) dX9_part_33 (by decide) (fun h => absurd h (by decide)) (fun j33 => ?_)
              refine xx_aload_n dX9_part_36 rfl ?_
              refine xx_get xx_c9 dX9_part_37 wf_X9_84 (j := 0) (by decide) hbq1 rfl ?_
              refine xx_if_ne (tgt := 99) dX9_part_40 (by decide) (fun h => absurd rfl h) (fun j40 => ?_)
              refine xx_iload_n dX9_part_43 rfl ?_
              refine xx_bipush (v := 20) dX9_part_44 (by decide) ?_
              refine xx_icmp_ge (tgt := 99) dX9_part_46 (by decide) (fun h => absurd h (nI_ge (a := k) (b := 20) (by omega) (by omega))) (fun j46 => ?_)
              refine xx_iconst (v := 4) dX9_part_49 (by decide) ?_
              refine xx_iload_n dX9_part_50 rfl ?_
              refine xx_imul dX9_part_51 ?_
              refine xx_eqi (y := nI (4 * k)) (pk_mul 4 k) ?_
              refine xx_iload dX9_part_52 rfl ?_
              refine xx_iadd dX9_part_54 ?_
              refine xx_eqi (y := nI (4 * k + 0)) (nI_add (4 * k) 0) ?_
              refine xx_istore dX9_part_55 (by decide) ?_
              refine xx_clv (lv2 := [(0, .ref b), (1, .int bl), (2, .int (nI k)), (3, .long (lN vv1)), (5, .int (nI R9)), (6, .int 0), (7, .int (nI (4 * k + 0)))]) rfl ?_
              refine xx_lload_n dX9_part_57 rfl ?_
              refine xx_bipush (v := 16) dX9_part_58 (by decide) ?_
              refine xx_lshl dX9_part_60 ?_
              refine xx_eql (y := lN (vv1 * 65536)) (wb_shl _ (k := 16) (by decide)) ?_
              refine xx_iload dX9_part_61 rfl ?_
              refine xx_aload_n dX9_part_63 rfl ?_
              refine xx_get xx_c9 dX9_part_64 wf_X9_14 (j := 2) (by decide) hbq1 rfl ?_
              refine xx_iload dX9_part_67 rfl ?_
              refine xx_iald dX9_part_69 ((oq1 (b + 2) (by omega)).trans p2) (vp_in_nI (by omega) (by decide)) ?_
              refine xx_eqi (y := nI len) (by rw [nI_clamp (by omega)]; exact p3) ?_
              refine xx_icmp_ge (tgt := 89) dX9_part_70 (by decide) (fun j70 => ?_) (fun j70 => ?_)
              · have j70 : len ≤ 4 * k + 0 := (nI_leI (a := len) (b := 4 * k + 0) (by omega) (by omega)).mp j70
                refine xx_iconst (v := 0) dX9_part_89 (by decide) ?_
                have lt9 : yr_p (N R9).natAbs (4 * k + 0) < 65536 := Nat.mod_lt _ (by decide)
                refine xx_cst (st2 := [.int (nI (yr_p (N R9).natAbs (4 * k + 0))), .long (lN (vv1 * 65536))]) (by rw [p6 (4 * k + 0) (by omega)]; rfl) ?_
                refine xx_i2l dX9_part_90 ?_
                refine xx_eql (y := lN (yr_p (N R9).natAbs (4 * k + 0))) (nI_l (by omega)) ?_
                refine xx_lor dX9_part_91 ?_
                obtain ⟨vv0, ev0⟩ : ∃ v, v = vv1 * 65536 + yr_p (N R9).natAbs (4 * k + 0) := ⟨_, rfl⟩
                have lv0 : vv0 < 18446744073709551616 := by omega
                refine xx_eql (y := lN vv0) (by rw [wb_or (by omega) (by omega), yr_or lt9, ev0]) ?_
                refine xx_lstore_n dX9_part_92 (by decide) ?_
                refine xx_clv (lv2 := [(0, .ref b), (1, .int bl), (2, .int (nI k)), (3, .long (lN vv0)), (5, .int (nI R9)), (6, .int 0), (7, .int (nI (4 * k + 0)))]) rfl ?_
                refine xx_iinc (v := (-1)) dX9_part_93 rfl (by decide) (by decide) ?_
                refine xx_clv (lv2 := [(0, .ref b), (1, .int bl), (2, .int (nI k)), (3, .long (lN vv0)), (5, .int (nI R9)), (6, .int (-1)), (7, .int (nI (4 * k + 0)))]) rfl ?_
                refine xx_goto (tgt := 31) dX9_part_96 (by decide) ?_
                refine xx_iload dX9_part_31 rfl ?_
                refine xx_if_lt (tgt := 99) dX9_part_33 (by decide) (fun j33 => ?_) (fun h => absurd (by decide) h)
                refine xx_lload_n dX9_part_99 rfl ?_
                exact xx_lret dX9_part_100 rfl ⟨zq1, oq1, Or.inl ⟨⟨k, hk, rfl, by rw [← yr_4, ev0, ev1, ev2, ev3, Nat.zero_mul, Nat.zero_add]⟩, hbq1⟩⟩
              · have j70 : ¬ len ≤ 4 * k + 0 := fun hq9 => j70 ((nI_leI (a := len) (b := 4 * k + 0) (by omega) (by omega)).mpr hq9)
                refine xx_aload_n dX9_part_73 rfl ?_
                refine xx_get xx_c9 dX9_part_74 wf_X9_8 (j := 1) (by decide) hbq1 rfl ?_
                refine xx_bipush (v := 40) dX9_part_77 (by decide) ?_
                refine xx_iload dX9_part_79 rfl ?_
                refine xx_imul dX9_part_81 ?_
                refine xx_eqi (y := nI (40 * R9)) (pk_mul 40 R9) ?_
                refine xx_iload dX9_part_82 rfl ?_
                refine xx_iadd dX9_part_84 ?_
                refine xx_eqi (y := nI (40 * R9 + (4 * k + 0))) (nI_add (40 * R9) (4 * k + 0)) ?_
                refine xx_iald dX9_part_85 ((oq1 (b + 1) (by omega)).trans p1) (vp_in_nI (by omega) (by decide)) ?_
                refine xx_eqi (y := nI (yr_p (N R9).natAbs (4 * k + 0))) (by rw [nI_clamp (by omega)]; exact p5 _ (by omega)) ?_
                refine xx_goto (tgt := 90) dX9_part_86 (by decide) ?_
                have lt9 : yr_p (N R9).natAbs (4 * k + 0) < 65536 := Nat.mod_lt _ (by decide)
                refine xx_i2l dX9_part_90 ?_
                refine xx_eql (y := lN (yr_p (N R9).natAbs (4 * k + 0))) (nI_l (by omega)) ?_
                refine xx_lor dX9_part_91 ?_
                obtain ⟨vv0, ev0⟩ : ∃ v, v = vv1 * 65536 + yr_p (N R9).natAbs (4 * k + 0) := ⟨_, rfl⟩
                have lv0 : vv0 < 18446744073709551616 := by omega
                refine xx_eql (y := lN vv0) (by rw [wb_or (by omega) (by omega), yr_or lt9, ev0]) ?_
                refine xx_lstore_n dX9_part_92 (by decide) ?_
                refine xx_clv (lv2 := [(0, .ref b), (1, .int bl), (2, .int (nI k)), (3, .long (lN vv0)), (5, .int (nI R9)), (6, .int 0), (7, .int (nI (4 * k + 0)))]) rfl ?_
                refine xx_iinc (v := (-1)) dX9_part_93 rfl (by decide) (by decide) ?_
                refine xx_clv (lv2 := [(0, .ref b), (1, .int bl), (2, .int (nI k)), (3, .long (lN vv0)), (5, .int (nI R9)), (6, .int (-1)), (7, .int (nI (4 * k + 0)))]) rfl ?_
                refine xx_goto (tgt := 31) dX9_part_96 (by decide) ?_
                refine xx_iload dX9_part_31 rfl ?_
                refine xx_if_lt (tgt := 99) dX9_part_33 (by decide) (fun j33 => ?_) (fun h => absurd (by decide) h)
                refine xx_lload_n dX9_part_99 rfl ?_
                exact xx_lret dX9_part_100 rfl ⟨zq1, oq1, Or.inl ⟨⟨k, hk, rfl, by rw [← yr_4, ev0, ev1, ev2, ev3, Nat.zero_mul, Nat.zero_add]⟩, hbq1⟩⟩
        · have j70 : ¬ len ≤ 4 * k + 3 := fun hq9 => j70 ((nI_leI (a := len) (b := 4 * k + 3) (by omega) (by omega)).mpr hq9)
          refine xx_aload_n dX9_part_73 rfl ?_
          refine xx_get xx_c9 dX9_part_74 wf_X9_8 (j := 1) (by decide) hbq1 rfl ?_
          refine xx_bipush (v := 40) dX9_part_77 (by decide) ?_
          refine xx_iload dX9_part_79 rfl ?_
          refine xx_imul dX9_part_81 ?_
          refine xx_eqi (y := nI (40 * R9)) (pk_mul 40 R9) ?_
          refine xx_iload dX9_part_82 rfl ?_
          refine xx_iadd dX9_part_84 ?_
          refine xx_eqi (y := nI (40 * R9 + (4 * k + 3))) (nI_add (40 * R9) (4 * k + 3)) ?_
          refine xx_iald dX9_part_85 ((oq1 (b + 1) (by omega)).trans p1) (vp_in_nI (by omega) (by decide)) ?_
          refine xx_eqi (y := nI (yr_p (N R9).natAbs (4 * k + 3))) (by rw [nI_clamp (by omega)]; exact p5 _ (by omega)) ?_
          refine xx_goto (tgt := 90) dX9_part_86 (by decide) ?_
          have lt9 : yr_p (N R9).natAbs (4 * k + 3) < 65536 := Nat.mod_lt _ (by decide)
          refine xx_i2l dX9_part_90 ?_
          refine xx_eql (y := lN (yr_p (N R9).natAbs (4 * k + 3))) (nI_l (by omega)) ?_
          refine xx_lor dX9_part_91 ?_
          obtain ⟨vv3, ev3⟩ : ∃ v, v = 0 * 65536 + yr_p (N R9).natAbs (4 * k + 3) := ⟨_, rfl⟩
          have lv3 : vv3 < 65536 := by omega
          refine xx_eql (y := lN vv3) (by rw [wb_or (by decide) (by omega), yr_or lt9, ev3]) ?_
          refine xx_lstore_n dX9_part_92 (by decide) ?_
          refine xx_clv (lv2 := [(0, .ref b), (1, .int bl), (2, .int (nI k)), (3, .long (lN vv3)), (5, .int (nI R9)), (6, .int 3), (7, .int (nI (4 * k + 3)))]) rfl ?_
          refine xx_iinc (v := 2) dX9_part_93 rfl (by decide) (by decide) ?_
          refine xx_clv (lv2 := [(0, .ref b), (1, .int bl), (2, .int (nI k)), (3, .long (lN vv3)), (5, .int (nI R9)), (6, .int 2), (7, .int (nI (4 * k + 3)))]) rfl ?_
          refine xx_goto (tgt := 31) dX9_part_96 (by decide) ?_
          refine xx_iload dX9_part_31 rfl ?_
          refine xx_if_lt (tgt := 99) dX9_part_33 (by decide) (fun h => absurd h (by decide)) (fun j33 => ?_)
          refine xx_aload_n dX9_part_36 rfl ?_
          refine xx_get xx_c9 dX9_part_37 wf_X9_84 (j := 0) (by decide) hbq1 rfl ?_
          refine xx_if_ne (tgt := 99) dX9_part_40 (by decide) (fun h => absurd rfl h) (fun j40 => ?_)
          refine xx_iload_n dX9_part_43 rfl ?_
          refine xx_bipush (v := 20) dX9_part_44 (by decide) ?_
          refine xx_icmp_ge (tgt := 99) dX9_part_46 (by decide) (fun h => absurd h (nI_ge (a := k) (b := 20) (by omega) (by omega))) (fun j46 => ?_)
          refine xx_iconst (v := 4) dX9_part_49 (by decide) ?_
          refine xx_iload_n dX9_part_50 rfl ?_
          refine xx_imul dX9_part_51 ?_
          refine xx_eqi (y := nI (4 * k)) (pk_mul 4 k) ?_
          refine xx_iload dX9_part_52 rfl ?_
          refine xx_iadd dX9_part_54 ?_
          refine xx_eqi (y := nI (4 * k + 2)) (nI_add (4 * k) 2) ?_
          refine xx_istore dX9_part_55 (by decide) ?_
          refine xx_clv (lv2 := [(0, .ref b), (1, .int bl), (2, .int (nI k)), (3, .long (lN vv3)), (5, .int (nI R9)), (6, .int 2), (7, .int (nI (4 * k + 2)))]) rfl ?_
          refine xx_lload_n dX9_part_57 rfl ?_
          refine xx_bipush (v := 16) dX9_part_58 (by decide) ?_
          refine xx_lshl dX9_part_60 ?_
          refine xx_eql (y := lN (vv3 * 65536)) (wb_shl _ (k := 16) (by decide)) ?_
          refine xx_iload dX9_part_61 rfl ?_
          refine xx_aload_n dX9_part_63 rfl ?_
          refine xx_get xx_c9 dX9_part_64 wf_X9_14 (j := 2) (by decide) hbq1 rfl ?_
          refine xx_iload dX9_part_67 rfl ?_
          refine xx_iald dX9_part_69 ((oq1 (b + 2) (by omega)).trans p2) (vp_in_nI (by omega) (by decide)) ?_
          refine xx_eqi (y := nI len) (by rw [nI_clamp (by omega)]; exact p3) ?_
          refine xx_icmp_ge (tgt := 89) dX9_part_70 (by decide) (fun j70 => ?_) (fun j70 => ?_)
          · have j70 : len ≤ 4 * k + 2 := (nI_leI (a := len) (b := 4 * k + 2) (by omega) (by omega)).mp j70
            refine xx_iconst (v := 0) dX9_part_89 (by decide) ?_
            have lt9 : yr_p (N R9).natAbs (4 * k + 2) < 65536 := Nat.mod_lt _ (by decide)
            refine xx_cst (st2 := [.int (nI (yr_p (N R9).natAbs (4 * k + 2))), .long (lN (vv3 * 65536))]) (by rw [p6 (4 * k + 2) (by omega)]; rfl) ?_
            refine xx_i2l dX9_part_90 ?_
            refine xx_eql (y := lN (yr_p (N R9).natAbs (4 * k + 2))) (nI_l (by omega)) ?_
            refine xx_lor dX9_part_91 ?_
            obtain ⟨vv2, ev2⟩ : ∃ v, v = vv3 * 65536 + yr_p (N R9).natAbs (4 * k + 2) := ⟨_, rfl⟩
            have lv2 : vv2 < 4294967296 := by omega
            refine xx_eql (y := lN vv2) (by rw [wb_or (by omega) (by omega), yr_or lt9, ev2]) ?_
            refine xx_lstore_n dX9_part_92 (by decide) ?_
            refine xx_clv (lv2 := [(0, .ref b), (1, .int bl), (2, .int (nI k)), (3, .long (lN vv2)), (5, .int (nI R9)), (6, .int 2), (7, .int (nI (4 * k + 2)))]) rfl ?_
            refine xx_iinc (v := 1) dX9_part_93 rfl (by decide) (by decide) ?_
            refine xx_clv (lv2 := [(0, .ref b), (1, .int bl), (2, .int (nI k)), (3, .long (lN vv2)), (5, .int (nI R9)), (6, .int 1), (7, .int (nI (4 * k + 2)))]) rfl ?_
            refine xx_goto (tgt := 31) dX9_part_96 (by decide) ?_
            refine xx_iload dX9_part_31 rfl ?_
            refine xx_if_lt (tgt := 99) dX9_part_33 (by decide) (fun h => absurd h (by decide)) (fun j33 => ?_)
            refine xx_aload_n dX9_part_36 rfl ?_
            refine xx_get xx_c9 dX9_part_37 wf_X9_84 (j := 0) (by decide) hbq1 rfl ?_
            refine xx_if_ne (tgt := 99) dX9_part_40 (by decide) (fun h => absurd rfl h) (fun j40 => ?_)
            refine xx_iload_n dX9_part_43 rfl ?_
            refine xx_bipush (v := 20) dX9_part_44 (by decide) ?_
            refine xx_icmp_ge (tgt := 99) dX9_part_46 (by decide) (fun h => absurd h (nI_ge (a := k) (b := 20) (by omega) (by omega))) (fun j46 => ?_)
            refine xx_iconst (v := 4) dX9_part_49 (by decide) ?_
            refine xx_iload_n dX9_part_50 rfl ?_
            refine xx_imul dX9_part_51 ?_
            refine xx_eqi (y := nI (4 * k)) (pk_mul 4 k) ?_
            refine xx_iload dX9_part_52 rfl ?_
            refine xx_iadd dX9_part_54 ?_
            refine xx_eqi (y := nI (4 * k + 1)) (nI_add (4 * k) 1) ?_
            refine xx_istore dX9_part_55 (by decide) ?_
            refine xx_clv (lv2 := [(0, .ref b), (1, .int bl), (2, .int (nI k)), (3, .long (lN vv2)), (5, .int (nI R9)), (6, .int 1), (7, .int (nI (4 * k + 1)))]) rfl ?_
            refine xx_lload_n dX9_part_57 rfl ?_
            refine xx_bipush (v := 16) dX9_part_58 (by decide) ?_
            refine xx_lshl dX9_part_60 ?_
            refine xx_eql (y := lN (vv2 * 65536)) (wb_shl _ (k := 16) (by decide)) ?_
            refine xx_iload dX9_part_61 rfl ?_
            refine xx_aload_n dX9_part_63 rfl ?_
            refine xx_get xx_c9 dX9_part_64 wf_X9_14 (j := 2) (by decide) hbq1 rfl ?_
            refine xx_iload dX9_part_67 rfl ?_
            refine xx_iald dX9_part_69 ((oq1 (b + 2) (by omega)).trans p2) (vp_in_nI (by omega) (by decide)) ?_
            refine xx_eqi (y := nI len) (by rw [nI_clamp (by omega)]; exact p3) ?_
            refine xx_icmp_ge (tgt := 89) dX9_part_70 (by decide) (fun j70 => ?_) (fun j70 => ?_)
            · have j70 : len ≤ 4 * k + 1 := (nI_leI (a := len) (b := 4 * k + 1) (by omega) (by omega)).mp j70
              refine xx_iconst (v := 0) dX9_part_89 (by decide) ?_
              have lt9 : yr_p (N R9).natAbs (4 * k + 1) < 65536 := Nat.mod_lt _ (by decide)
              refine xx_cst (st2 := [.int (nI (yr_p (N R9).natAbs (4 * k + 1))), .long (lN (vv2 * 65536))]) (by rw [p6 (4 * k + 1) (by omega)]; rfl) ?_
              refine xx_i2l dX9_part_90 ?_
              refine xx_eql (y := lN (yr_p (N R9).natAbs (4 * k + 1))) (nI_l (by omega)) ?_
              refine xx_lor dX9_part_91 ?_
              obtain ⟨vv1, ev1⟩ : ∃ v, v = vv2 * 65536 + yr_p (N R9).natAbs (4 * k + 1) := ⟨_, rfl⟩
              have lv1 : vv1 < 281474976710656 := by omega
              refine xx_eql (y := lN vv1) (by rw [wb_or (by omega) (by omega), yr_or lt9, ev1]) ?_
              refine xx_lstore_n dX9_part_92 (by decide) ?_
              refine xx_clv (lv2 := [(0, .ref b), (1, .int bl), (2, .int (nI k)), (3, .long (lN vv1)), (5, .int (nI R9)), (6, .int 1), (7, .int (nI (4 * k + 1)))]) rfl ?_
              refine xx_iinc (v := 0) dX9_part_93 rfl (by decide) (by decide) ?_
              refine xx_clv (lv2 := [(0, .ref b), (1, .int bl), (2, .int (nI k)), (3, .long (lN vv1)), (5, .int (nI R9)), (6, .int 0), (7, .int (nI (4 * k + 1)))]) rfl ?_
              refine xx_goto (tgt := 31) dX9_part_96 (by decide) ?_
              refine xx_iload dX9_part_31 rfl ?_
              refine xx_if_lt (tgt := 99) dX9_part_33 (by decide) (fun h => absurd h (by decide)) (fun j33 => ?_)
              refine xx_aload_n dX9_part_36 rfl ?_
              refine xx_get xx_c9 dX9_part_37 wf_X9_84 (j := 0) (by decide) hbq1 rfl ?_
              refine xx_if_ne (tgt := 99) dX9_part_40 (by decide) (fun h => absurd rfl h) (fun j40 => ?_)
              refine xx_iload_n dX9_part_43 rfl ?_
              refine xx_bipush (v := 20) dX9_part_44 (by decide) ?_
              refine xx_icmp_ge (tgt := 99) dX9_part_46 (by decide) (fun h => absurd h (nI_ge (a := k) (b := 20) (by omega) (by omega))) (fun j46 => ?_)
              refine xx_iconst (v := 4) dX9_part_49 (by decide) ?_
              refine xx_iload_n dX9_part_50 rfl ?_
              refine xx_imul dX9_part_51 ?_
              refine xx_eqi (y := nI (4 * k)) (pk_mul 4 k) ?_
              refine xx_iload dX9_part_52 rfl ?_
              refine xx_iadd dX9_part_54 ?_
              refine xx_eqi (y := nI (4 * k + 0)) (nI_add (4 * k) 0) ?_
              refine xx_istore dX9_part_55 (by decide) ?_
              refine xx_clv (lv2 := [(0, .ref b), (1, .int bl), (2, .int (nI k)), (3, .long (lN vv1)), (5, .int (nI R9)), (6, .int 0), (7, .int (nI (4 * k + 0)))]) rfl ?_
              refine xx_lload_n dX9_part_57 rfl ?_
              refine xx_bipush (v := 16) dX9_part_58 (by decide) ?_
              refine xx_lshl dX9_part_60 ?_
              refine xx_eql (y := lN (vv1 * 65536)) (wb_shl _ (k := 16) (by decide)) ?_
              refine xx_iload dX9_part_61 rfl ?_
              refine xx_aload_n dX9_part_63 rfl ?_
              refine xx_get xx_c9 dX9_part_64 wf_X9_14 (j := 2) (by decide) hbq1 rfl ?_
              refine xx_iload dX9_part_67 rfl ?_
              refine xx_iald dX9_part_69 ((oq1 (b + 2) (by omega)).trans p2) (vp_in_nI (by omega) (by decide)) ?_
              refine xx_eqi (y := nI len) (by rw [nI_clamp (by omega)]; exact p3) ?_
              refine xx_icmp_ge (tgt := 89) dX9_part_70 (by decide) (fun j70 => ?_) (fun j70 => ?_)
              · have j70 : len ≤ 4 * k + 0 := (nI_leI (a := len) (b := 4 * k + 0) (by omega) (by omega)).mp j70
                refine xx_iconst (v := 0) dX9_part_89 (by decide) ?_
                have lt9 : yr_p (N R9).natAbs (4 * k + 0) < 65536 := Nat.mod_lt _ (by decide)
                refine xx_cst (st2 := [.int (nI (yr_p (N R9).natAbs (4 * k + 0))), .long (lN (vv1 * 65536))]) (by rw [p6 (4 * k + 0) (by omega)]; rfl) ?_
                refine xx_i2l dX9_part_90 ?_
                refine xx_eql (y := lN (yr_p (N R9).natAbs (4 * k + 0))) (nI_l (by omega)) ?_
                refine xx_lor dX9_part_91 ?_
                obtain ⟨vv0, ev0⟩ : ∃ v, v = vv1 * 65536 + yr_p (N R9).natAbs (4 * k + 0) := ⟨_, rfl⟩
                have lv0 : vv0 < 18446744073709551616 := by omega
                refine xx_eql (y := lN vv0) (by rw [wb_or (by omega) (by omega), yr_or lt9, ev0]) ?_
                refine xx_lstore_n dX9_part_92 (by decide) ?_
                refine xx_clv (lv2 := [(0, .ref b), (1, .int bl), (2, .int (nI k)), (3, .long (lN vv0)), (5, .int (nI R9)), (6, .int 0), (7, .int (nI (4 * k + 0)))]) rfl ?_
                refine xx_iinc (v := (-1)) dX9_part_93 rfl (by decide) (by decide) ?_
                refine xx_clv (lv2 := [(0, .ref b), (1, .int bl), (2, .int (nI k)), (3, .long (lN vv0)), (5, .int (nI R9)), (6, .int (-1)), (7, .int (nI (4 * k + 0)))]) rfl ?_
                refine xx_goto (tgt := 31) dX9_part_96 (by decide) ?_
                refine xx_iload dX9_part_31 rfl ?_
                refine xx_if_lt (tgt := 99) dX9_part_33 (by decide) (fun j33 => ?_) (fun h => absurd (by decide) h)
                refine xx_lload_n dX9_part_99 rfl ?_
                exact xx_lret dX9_part_100 rfl ⟨zq1, oq1, Or.inl ⟨⟨k, hk, rfl, by rw [← yr_4, ev0, ev1, ev2, ev3, Nat.zero_mul, Nat.zero_add]⟩, hbq1⟩⟩
              · have j70 : ¬ len ≤ 4 * k + 0 := fun hq9 => j70 ((nI_leI (a := len) (b := 4 * k + 0) (by omega) (by omega)).mpr hq9)
                refine xx_aload_n dX9_part_73 rfl ?_
                refine xx_get xx_c9 dX9_part_74 wf_X9_8 (j := 1) (by decide) hbq1 rfl ?_
                refine xx_bipush (v := 40) dX9_part_77 (by decide) ?_
                refine xx_iload dX9_part_79 rfl ?_
                refine xx_imul dX9_part_81 ?_
                refine xx_eqi (y := nI (40 * R9)) (pk_mul 40 R9) ?_
                refine xx_iload dX9_part_82 rfl ?_
                refine xx_iadd dX9_part_84 ?_
                refine xx_eqi (y := nI (40 * R9 + (4 * k + 0))) (nI_add (40 * R9) (4 * k + 0)) ?_
                refine xx_iald dX9_part_85 ((oq1 (b + 1) (by omega)).trans p1) (vp_in_nI (by omega) (by decide)) ?_
                refine xx_eqi (y := nI (yr_p (N R9).natAbs (4 * k + 0))) (by rw [nI_clamp (by omega)]; exact p5 _ (by omega)) ?_
                refine xx_goto (tgt := 90) dX9_part_86 (by decide) ?_
                have lt9 : yr_p (N R9).natAbs (4 * k + 0) < 65536 := Nat.mod_lt _ (by decide)
                refine xx_i2l dX9_part_90 ?_
                refine xx_eql (y := lN (yr_p (N R9).natAbs (4 * k + 0))) (nI_l (by omega)) ?_
                refine xx_lor dX9_part_91 ?_
                obtain ⟨vv0, ev0⟩ : ∃ v, v = vv1 * 65536 + yr_p (N R9).natAbs (4 * k + 0) := ⟨_, rfl⟩
                have lv0 : vv0 < 18446744073709551616 := by omega
                refine xx_eql (y := lN vv0) (by rw [wb_or (by omega) (by omega), yr_or lt9, ev0]) ?_
                refine xx_lstore_n dX9_part_92 (by decide) ?_
                refine xx_clv (lv2 := [(0, .ref b), (1, .int bl), (2, .int (nI k)), (3, .long (lN vv0)), (5, .int (nI R9)), (6, .int 0), (7, .int (nI (4 * k + 0)))]) rfl ?_
                refine xx_iinc (v := (-1)) dX9_part_93 rfl (by decide) (by decide) ?_
                refine xx_clv (lv2 := [(0, .ref b), (1, .int bl), (2, .int (nI k)), (3, .long (lN vv0)), (5, .int (nI R9)), (6, .int (-1)), (7, .int (nI (4 * k + 0)))]) rfl ?_
                refine xx_goto (tgt := 31) dX9_part_96 (by decide) ?_
                refine xx_iload dX9_part_31 rfl ?_
                refine xx_if_lt (tgt := 99) dX9_part_33 (by decide) (fun j33 => ?_) (fun h => absurd (by decide) h)
                refine xx_lload_n dX9_part_99 rfl ?_
                exact xx_lret dX9_part_100 rfl ⟨zq1, oq1, Or.inl ⟨⟨k, hk, rfl, by rw [← yr_4, ev0, ev1, ev2, ev3, Nat.zero_mul, Nat.zero_add]⟩, hbq1⟩⟩
            · have j70 : ¬ len ≤ 4 * k + 1 := fun hq9 => j70 ((nI_leI (a := len) (b := 4 * k + 1) (by omega) (by omega)).mpr hq9)
              refine xx_aload_n dX9_part_73 rfl ?_
              refine xx_get xx_c9 dX9_part_74 wf_X9_8 (j := 1) (by decide) hbq1 rfl ?_
              refine xx_bipush (v := 40) dX9_part_77 (by decide) ?_
              refine xx_iload dX9_part_79 rfl ?_
              refine xx_imul dX9_part_81 ?_
              refine xx_eqi (y := nI (40 * R9)) (pk_mul 40 R9) ?_
              refine xx_iload dX9_part_82 rfl ?_
              refine xx_iadd dX9_part_84 ?_
              refine xx_eqi (y := nI (40 * R9 + (4 * k + 1))) (nI_add (40 * R9) (4 * k + 1)) ?_
              refine xx_iald dX9_part_85 ((oq1 (b + 1) (by omega)).trans p1) (vp_in_nI (by omega) (by decide)) ?_
              refine xx_eqi (y := nI (yr_p (N R9).natAbs (4 * k + 1))) (by rw [nI_clamp (by omega)]; exact p5 _ (by omega)) ?_
              refine xx_goto (tgt := 90) dX9_part_86 (by decide) ?_
              have lt9 : yr_p (N R9).natAbs (4 * k + 1) < 65536 := Nat.mod_lt _ (by decide)
              refine xx_i2l dX9_part_90 ?_
              refine xx_eql (y := lN (yr_p (N R9).natAbs (4 * k + 1))) (nI_l (by omega)) ?_
              refine xx_lor dX9_part_91 ?_
              obtain ⟨vv1, ev1⟩ : ∃ v, v = vv2 * 65536 + yr_p (N R9).natAbs (4 * k + 1) := ⟨_, rfl⟩
              have lv1 : vv1 < 281474976710656 := by omega
              refine xx_eql (y := lN vv1) (by rw [wb_or (by omega) (by omega), yr_or lt9, ev1]) ?_
              refine xx_lstore_n dX9_part_92 (by decide) ?_
              refine xx_clv (lv2 := [(0, .ref b), (1, .int bl), (2, .int (nI k)), (3, .long (lN vv1)), (5, .int (nI R9)), (6, .int 1), (7, .int (nI (4 * k + 1)))]) rfl ?_
              refine xx_iinc (v := 0) dX9_part_93 rfl (by decide) (by decide) ?_
              refine xx_clv (lv2 := [(0, .ref b), (1, .int bl), (2, .int (nI k)), (3, .long (lN vv1)), (5, .int (nI R9)), (6, .int 0), (7, .int (nI (4 * k + 1)))]) rfl ?_
              refine xx_goto (tgt := 31) dX9_part_96 (by decide) ?_
              refine xx_iload dX9_part_31 rfl ?_
              refine xx_if_lt (tgt := 99) dX9_part_33 (by decide) (fun h => absurd h (by decide)) (fun j33 => ?_)
              refine xx_aload_n dX9_part_36 rfl ?_
              refine xx_get xx_c9 dX9_part_37 wf_X9_84 (j := 0) (by decide) hbq1 rfl ?_
              refine xx_if_ne (tgt := 99) dX9_part_40 (by decide) (fun h => absurd rfl h) (fun j40 => ?_)
              refine xx_iload_n dX9_part_43 rfl ?_
              refine xx_bipush (v := 20) dX9_part_44 (by decide) ?_
              refine xx_icmp_ge (tgt := 99) dX9_part_46 (by decide) (fun h => absurd h (nI_ge (a := k) (b := 20) (by omega) (by omega))) (fun j46 => ?_)
              refine xx_iconst (v := 4) dX9_part_49 (by decide) ?_
              refine xx_iload_n dX9_part_50 rfl ?_
              refine xx_imul dX9_part_51 ?_
              refine xx_eqi (y := nI (4 * k)) (pk_mul 4 k) ?_
              refine xx_iload dX9_part_52 rfl ?_
              refine xx_iadd dX9_part_54 ?_
              refine xx_eqi (y := nI (4 * k + 0)) (nI_add (4 * k) 0) ?_
              refine xx_istore dX9_part_55 (by decide) ?_
              refine xx_clv (lv2 := [(0, .ref b), (1, .int bl), (2, .int (nI k)), (3, .long (lN vv1)), (5, .int (nI R9)), (6, .int 0), (7, .int (nI (4 * k + 0)))]) rfl ?_
              refine xx_lload_n dX9_part_57 rfl ?_
              refine xx_bipush (v := 16) dX9_part_58 (by decide) ?_
              refine xx_lshl dX9_part_60 ?_
              refine xx_eql (y := lN (vv1 * 65536)) (wb_shl _ (k := 16) (by decide)) ?_
              refine xx_iload dX9_part_61 rfl ?_
              refine xx_aload_n dX9_part_63 rfl ?_
              refine xx_get xx_c9 dX9_part_64 wf_X9_14 (j := 2) (by decide) hbq1 rfl ?_
              refine xx_iload dX9_part_67 rfl ?_
              refine xx_iald dX9_part_69 ((oq1 (b + 2) (by omega)).trans p2) (vp_in_nI (by omega) (by decide)) ?_
              refine xx_eqi (y := nI len) (by rw [nI_clamp (by omega)]; exact p3) ?_
              refine xx_icmp_ge (tgt := 89) dX9_part_70 (by decide) (fun j70 => ?_) (fun j70 => ?_)
              · have j70 : len ≤ 4 * k + 0 := (nI_leI (a := len) (b := 4 * k + 0) (by omega) (by omega)).mp j70
                refine xx_iconst (v := 0) dX9_part_89 (by decide) ?_
                have lt9 : yr_p (N R9).natAbs (4 * k + 0) < 65536 := Nat.mod_lt _ (by decide)
                refine xx_cst (st2 := [.int (nI (yr_p (N R9).natAbs (4 * k + 0))), .long (lN (vv1 * 65536))]) (by rw [p6 (4 * k + 0) (by omega)]; rfl) ?_
                refine xx_i2l dX9_part_90 ?_
                refine xx_eql (y := lN (yr_p (N R9).natAbs (4 * k + 0))) (nI_l (by omega)) ?_
                refine xx_lor dX9_part_91 ?_
                obtain ⟨vv0, ev0⟩ : ∃ v, v = vv1 * 65536 + yr_p (N R9).natAbs (4 * k + 0) := ⟨_, rfl⟩
                have lv0 : vv0 < 18446744073709551616 := by omega
                refine xx_eql (y := lN vv0) (by rw [wb_or (by omega) (by omega), yr_or lt9, ev0]) ?_
                refine xx_lstore_n dX9_part_92 (by decide) ?_
                refine xx_clv (lv2 := [(0, .ref b), (1, .int bl), (2, .int (nI k)), (3, .long (lN vv0)), (5, .int (nI R9)), (6, .int 0), (7, .int (nI (4 * k + 0)))]) rfl ?_
                refine xx_iinc (v := (-1)) dX9_part_93 rfl (by decide) (by decide) ?_
                refine xx_clv (lv2 := [(0, .ref b), (1, .int bl), (2, .int (nI k)), (3, .long (lN vv0)), (5, .int (nI R9)), (6, .int (-1)), (7, .int (nI (4 * k + 0)))]) rfl ?_
                refine xx_goto (tgt := 31) dX9_part_96 (by decide) ?_
                refine xx_iload dX9_part_31 rfl ?_
                refine xx_if_lt (tgt := 99) dX9_part_33 (by decide) (fun j33 => ?_) (fun h => absurd (by decide) h)
                refine xx_lload_n dX9_part_99 rfl ?_
                exact xx_lret dX9_part_100 rfl ⟨zq1, oq1, Or.inl ⟨⟨k, hk, rfl, by rw [← yr_4, ev0, ev1, ev2, ev3, Nat.zero_mul, Nat.zero_add]⟩, hbq1⟩⟩
              · have j70 : ¬ len ≤ 4 * k + 0 := fun hq9 => j70 ((nI_leI (a := len) (b := 4 * k + 0) (by omega) (by omega)).mpr hq9)
                refine xx_aload_n dX9_part_73 rfl ?_
                refine xx_get xx_c9 dX9_part_74 wf_X9_8 (j := 1) (by decide) hbq1 rfl ?_
                refine xx_bipush (v := 40) dX9_part_77 (by decide) ?_
                refine xx_iload dX9_part_79 rfl ?_
                refine xx_imul dX9_part_81 ?_
                refine xx_eqi (y := nI (40 * R9)) (pk_mul 40 R9) ?_
                refine xx_iload dX9_part_82 rfl ?_
                refine xx_iadd dX9_part_84 ?_
                refine xx_eqi (y := nI (40 * R9 + (4 * k + 0))) (nI_add (40 * R9) (4 * k + 0)) ?_
                refine xx_iald dX9_part_85 ((oq1 (b + 1) (by omega)).trans p1) (vp_in_nI (by omega) (by decide)) ?_
                refine xx_eqi (y := nI (yr_p (N R9).natAbs (4 * k + 0))) (by rw [nI_clamp (by omega)]; exact p5 _ (by omega)) ?_
                refine xx_goto (tgt := 90) dX9_part_86 (by decide) ?_
                have lt9 : yr_p (N R9).natAbs (4 * k + 0) < 65536 := Nat.mod_lt _ (by decide)
                refine xx_i2l dX9_part_90 ?_
                refine xx_eql (y := lN (yr_p (N R9).natAbs (4 * k + 0))) (nI_l (by omega)) ?_
                refine xx_lor dX9_part_91 ?_
                obtain ⟨vv0, ev0⟩ : ∃ v, v = vv1 * 65536 + yr_p (N R9).natAbs (4 * k + 0) := ⟨_, rfl⟩
                have lv0 : vv0 < 18446744073709551616 := by omega
                refine xx_eql (y := lN vv0) (by rw [wb_or (by omega) (by omega), yr_or lt9, ev0]) ?_
                refine xx_lstore_n dX9_part_92 (by decide) ?_
                refine xx_clv (lv2 := [(0, .ref b), (1, .int bl), (2, .int (nI k)), (3, .long (lN vv0)), (5, .int (nI R9)), (6, .int 0), (7, .int (nI (4 * k + 0)))]) rfl ?_
                refine xx_iinc (v := (-1)) dX9_part_93 rfl (by decide) (by decide) ?_
                refine xx_clv (lv2 := [(0, .ref b), (1, .int bl), (2, .int (nI k)), (3, .long (lN vv0)), (5, .int (nI R9)), (6, .int (-1)), (7, .int (nI (4 * k + 0)))]) rfl ?_
                refine xx_goto (tgt := 31) dX9_part_96 (by decide) ?_
                refine xx_iload dX9_part_31 rfl ?_
                refine xx_if_lt (tgt := 99) dX9_part_33 (by decide) (fun j33 => ?_) (fun h => absurd (by decide) h)
                refine xx_lload_n dX9_part_99 rfl ?_
                exact xx_lret dX9_part_100 rfl ⟨zq1, oq1, Or.inl ⟨⟨k, hk, rfl, by rw [← yr_4, ev0, ev1, ev2, ev3, Nat.zero_mul, Nat.zero_add]⟩, hbq1⟩⟩
          · have j70 : ¬ len ≤ 4 * k + 2 := fun hq9 => j70 ((nI_leI (a := len) (b := 4 * k + 2) (by omega) (by omega)).mpr hq9)
            refine xx_aload_n dX9_part_73 rfl ?_
            refine xx_get xx_c9 dX9_part_74 wf_X9_8 (j := 1) (by decide) hbq1 rfl ?_
            refine xx_bipush (v := 40) dX9_part_77 (by decide) ?_
            refine xx_iload dX9_part_79 rfl ?_
            refine xx_imul dX9_part_81 ?_
            refine xx_eqi (y := nI (40 * R9)) (pk_mul 40 R9) ?_
            refine xx_iload dX9_part_82 rfl ?_
            refine xx_iadd dX9_part_84 ?_
            refine xx_eqi (y := nI (40 * R9 + (4 * k + 2))) (nI_add (40 * R9) (4 * k + 2)) ?_
            refine xx_iald dX9_part_85 ((oq1 (b + 1) (by omega)).trans p1) (vp_in_nI (by omega) (by decide)) ?_
            refine xx_eqi (y := nI (yr_p (N R9).natAbs (4 * k + 2))) (by rw [nI_clamp (by omega)]; exact p5 _ (by omega)) ?_
            refine xx_goto (tgt := 90) dX9_part_86 (by decide) ?_
            have lt9 : yr_p (N R9).natAbs (4 * k + 2) < 65536 := Nat.mod_lt _ (by decide)
            refine xx_i2l dX9_part_90 ?_
            refine xx_eql (y := lN (yr_p (N R9).natAbs (4 * k + 2))) (nI_l (by omega)) ?_
            refine xx_lor dX9_part_91 ?_
            obtain ⟨vv2, ev2⟩ : ∃ v, v = vv3 * 65536 + yr_p (N R9).natAbs (4 * k + 2) := ⟨_, rfl⟩
            have lv2 : vv2 < 4294967296 := by omega
            refine xx_eql (y := lN vv2) (by rw [wb_or (by omega) (by omega), yr_or lt9, ev2]) ?_
            refine xx_lstore_n dX9_part_92 (by decide) ?_
            refine xx_clv (lv2 := [(0, .ref b), (1, .int bl), (2, .int (nI k)), (3, .long (lN vv2)), (5, .int (nI R9)), (6, .int 2), (7, .int (nI (4 * k + 2)))]) rfl ?_
            refine xx_iinc (v := 1) dX9_part_93 rfl (by decide) (by decide) ?_
            refine xx_clv (lv2 := [(0, .ref b), (1, .int bl), (2, .int (nI k)), (3, .long (lN vv2)), (5, .int (nI R9)), (6, .int 1), (7, .int (nI (4 * k + 2)))]) rfl ?_
            refine xx_goto (tgt := 31) dX9_part_96 (by decide) ?_
            refine xx_iload dX9_part_31 rfl ?_
            refine xx_if_lt (tgt := 99) dX9_part_33 (by decide) (fun h => absurd h (by decide)) (fun j33 => ?_)
            refine xx_aload_n dX9_part_36 rfl ?_
            refine xx_get xx_c9 dX9_part_37 wf_X9_84 (j := 0) (by decide) hbq1 rfl ?_
            refine xx_if_ne (tgt := 99) dX9_part_40 (by decide) (fun h => absurd rfl h) (fun j40 => ?_)
            refine xx_iload_n dX9_part_43 rfl ?_
            refine xx_bipush (v := 20) dX9_part_44 (by decide) ?_
            refine xx_icmp_ge (tgt := 99) dX9_part_46 (by decide) (fun h => absurd h (nI_ge (a := k) (b := 20) (by omega) (by omega))) (fun j46 => ?_)
            refine xx_iconst (v := 4) dX9_part_49 (by decide) ?_
            refine xx_iload_n dX9_part_50 rfl ?_
            refine xx_imul dX9_part_51 ?_
            refine xx_eqi (y := nI (4 * k)) (pk_mul 4 k) ?_
            refine xx_iload dX9_part_52 rfl ?_
            refine xx_iadd dX9_part_54 ?_
            refine xx_eqi (y := nI (4 * k + 1)) (nI_add (4 * k) 1) ?_
            refine xx_istore dX9_part_55 (by decide) ?_
            refine xx_clv (lv2 := [(0, .ref b), (1, .int bl), (2, .int (nI k)), (3, .long (lN vv2)), (5, .int (nI R9)), (6, .int 1), (7, .int (nI (4 * k + 1)))]) rfl ?_
            refine xx_lload_n dX9_part_57 rfl ?_
            refine xx_bipush (v := 16) dX9_part_58 (by decide) ?_
            refine xx_lshl dX9_part_60 ?_
            refine xx_eql (y := lN (vv2 * 65536)) (wb_shl _ (k := 16) (by decide)) ?_
            refine xx_iload dX9_part_61 rfl ?_
            refine xx_aload_n dX9_part_63 rfl ?_
            refine xx_get xx_c9 dX9_part_64 wf_X9_14 (j := 2) (by decide) hbq1 rfl ?_
            refine xx_iload dX9_part_67 rfl ?_
            refine xx_iald dX9_part_69 ((oq1 (b + 2) (by omega)).trans p2) (vp_in_nI (by omega) (by decide)) ?_
            refine xx_eqi (y := nI len) (by rw [nI_clamp (by omega)]; exact p3) ?_
            refine xx_icmp_ge (tgt := 89) dX9_part_70 (by decide) (fun j70 => ?_) (fun j70 => ?_)
            · have j70 : len ≤ 4 * k + 1 := (nI_leI (a := len) (b := 4 * k + 1) (by omega) (by omega)).mp j70
              refine xx_iconst (v := 0) dX9_part_89 (by decide) ?_
              have lt9 : yr_p (N R9).natAbs (4 * k + 1) < 65536 := Nat.mod_lt _ (by decide)
              refine xx_cst (st2 := [.int (nI (yr_p (N R9).natAbs (4 * k + 1))), .long (lN (vv2 * 65536))]) (by rw [p6 (4 * k + 1) (by omega)]; rfl) ?_
              refine xx_i2l dX9_part_90 ?_
              refine xx_eql (y := lN (yr_p (N R9).natAbs (4 * k + 1))) (nI_l (by omega)) ?_
              refine xx_lor dX9_part_91 ?_
              obtain ⟨vv1, ev1⟩ : ∃ v, v = vv2 * 65536 + yr_p (N R9).natAbs (4 * k + 1) := ⟨_, rfl⟩
              have lv1 : vv1 < 281474976710656 := by omega
              refine xx_eql (y := lN vv1) (by rw [wb_or (by omega) (by omega), yr_or lt9, ev1]) ?_
              refine xx_lstore_n dX9_part_92 (by decide) ?_
              refine xx_clv (lv2 := [(0, .ref b), (1, .int bl), (2, .int (nI k)), (3, .long (lN vv1)), (5, .int (nI R9)), (6, .int 1), (7, .int (nI (4 * k + 1)))]) rfl ?_
              refine xx_iinc (v := 0) dX9_part_93 rfl (by decide) (by decide) ?_
              refine xx_clv (lv2 := [(0, .ref b), (1, .int bl), (2, .int (nI k)), (3, .long (lN vv1)), (5, .int (nI R9)), (6, .int 0), (7, .int (nI (4 * k + 1)))]) rfl ?_
              refine xx_goto (tgt := 31) dX9_part_96 (by decide) ?_
              refine xx_iload dX9_part_31 rfl ?_
              refine xx_if_lt (tgt := 99) dX9_part_33 (by decide) (fun h => absurd h (by decide)) (fun j33 => ?_)
              refine xx_aload_n dX9_part_36 rfl ?_
              refine xx_get xx_c9 dX9_part_37 wf_X9_84 (j := 0) (by decide) hbq1 rfl ?_
              refine xx_if_ne (tgt := 99) dX9_part_40 (by decide) (fun h => absurd rfl h) (fun j40 => ?_)
              refine xx_iload_n dX9_part_43 rfl ?_
              refine xx_bipush (v := 20) dX9_part_44 (by decide) ?_
              refine xx_icmp_ge (tgt := 99) dX9_part_46 (by decide) (fun h => absurd h (nI_ge (a := k) (b := 20) (by omega) (by omega))) (fun j46 => ?_)
              refine xx_iconst (v := 4) dX9_part_49 (by decide) ?_
              refine xx_iload_n dX9_part_50 rfl ?_
              refine xx_imul dX9_part_51 ?_
              refine xx_eqi (y := nI (4 * k)) (pk_mul 4 k) ?_
              refine xx_iload dX9_part_52 rfl ?_
              refine xx_iadd dX9_part_54 ?_
              refine xx_eqi (y := nI (4 * k + 0)) (nI_add (4 * k) 0) ?_
              refine xx_istore dX9_part_55 (by decide) ?_
              refine xx_clv (lv2 := [(0, .ref b), (1, .int bl), (2, .int (nI k)), (3, .long (lN vv1)), (5, .int (nI R9)), (6, .int 0), (7, .int (nI (4 * k + 0)))]) rfl ?_
              refine xx_lload_n dX9_part_57 rfl ?_
              refine xx_bipush (v := 16) dX9_part_58 (by decide) ?_
              refine xx_lshl dX9_part_60 ?_
              refine xx_eql (y := lN (vv1 * 65536)) (wb_shl _ (k := 16) (by decide)) ?_
              refine xx_iload dX9_part_61 rfl ?_
              refine xx_aload_n dX9_part_63 rfl ?_
              refine xx_get xx_c9 dX9_part_64 wf_X9_14 (j := 2) (by decide) hbq1 rfl ?_
              refine xx_iload dX9_part_67 rfl ?_
              refine xx_iald dX9_part_69 ((oq1 (b + 2) (by omega)).trans p2) (vp_in_nI (by omega) (by decide)) ?_
              refine xx_eqi (y := nI len) (by rw [nI_clamp (by omega)]; exact p3) ?_
              refine xx_icmp_ge (tgt := 89) dX9_part_70 (by decide) (fun j70 => ?_) (fun j70 => ?_)
              · have j70 : len ≤ 4 * k + 0 := (nI_leI (a := len) (b := 4 * k + 0) (by omega) (by omega)).mp j70
                refine xx_iconst (v := 0) dX9_part_89 (by decide) ?_
                have lt9 : yr_p (N R9).natAbs (4 * k + 0) < 65536 := Nat.mod_lt _ (by decide)
                refine xx_cst (st2 := [.int (nI (yr_p (N R9).natAbs (4 * k + 0))), .long (lN (vv1 * 65536))]) (by rw [p6 (4 * k + 0) (by omega)]; rfl) ?_
                refine xx_i2l dX9_part_90 ?_
                refine xx_eql (y := lN (yr_p (N R9).natAbs (4 * k + 0))) (nI_l (by omega)) ?_
                refine xx_lor dX9_part_91 ?_
                obtain ⟨vv0, ev0⟩ : ∃ v, v = vv1 * 65536 + yr_p (N R9).natAbs (4 * k + 0) := ⟨_, rfl⟩
                have lv0 : vv0 < 18446744073709551616 := by omega
                refine xx_eql (y := lN vv0) (by rw [wb_or (by omega) (by omega), yr_or lt9, ev0]) ?_
                refine xx_lstore_n dX9_part_92 (by decide) ?_
                refine xx_clv (lv2 := [(0, .ref b), (1, .int bl), (2, .int (nI k)), (3, .long (lN vv0)), (5, .int (nI R9)), (6, .int 0), (7, .int (nI (4 * k + 0)))]) rfl ?_
                refine xx_iinc (v := (-1)) dX9_part_93 rfl (by decide) (by decide) ?_
                refine xx_clv (lv2 := [(0, .ref b), (1, .int bl), (2, .int (nI k)), (3, .long (lN vv0)), (5, .int (nI R9)), (6, .int (-1)), (7, .int (nI (4 * k + 0)))]) rfl ?_
                refine xx_goto (tgt := 31) dX9_part_96 (by decide) ?_
                refine xx_iload dX9_part_31 rfl ?_
                refine xx_if_lt (tgt := 99) dX9_part_33 (by decide) (fun j33 => ?_) (fun h => absurd (by decide) h)
                refine xx_lload_n dX9_part_99 rfl ?_
                exact xx_lret dX9_part_100 rfl ⟨zq1, oq1, Or.inl ⟨⟨k, hk, rfl, by rw [← yr_4, ev0, ev1, ev2, ev3, Nat.zero_mul, Nat.zero_add]⟩, hbq1⟩⟩
              · have j70 : ¬ len ≤ 4 * k + 0 := fun hq9 => j70 ((nI_leI (a := len) (b := 4 * k + 0) (by omega) (by omega)).mpr hq9)
                refine xx_aload_n dX9_part_73 rfl ?_
                refine xx_get xx_c9 dX9_part_74 wf_X9_8 (j := 1) (by decide) hbq1 rfl ?_
                refine xx_bipush (v := 40) dX9_part_77 (by decide) ?_
                refine xx_iload dX9_part_79 rfl ?_
                refine xx_imul dX9_part_81 ?_
                refine xx_eqi (y := nI (40 * R9)) (pk_mul 40 R9) ?_
                refine xx_iload dX9_part_82 rfl ?_
                refine xx_iadd dX9_part_84 ?_
                refine xx_eqi (y := nI (40 * R9 + (4 * k + 0))) (nI_add (40 * R9) (4 * k + 0)) ?_
                refine xx_iald dX9_part_85 ((oq1 (b + 1) (by omega)).trans p1) (vp_in_nI (by omega) (by decide)) ?_
                refine xx_eqi (y := nI (yr_p (N R9).natAbs (4 * k + 0))) (by rw [nI_clamp (by omega)]; exact p5 _ (by omega)) ?_
                refine xx_goto (tgt := 90) dX9_part_86 (by decide) ?_
                have lt9 : yr_p (N R9).natAbs (4 * k + 0) < 65536 := Nat.mod_lt _ (by decide)
                refine xx_i2l dX9_part_90 ?_
                refine xx_eql (y := lN (yr_p (N R9).natAbs (4 * k + 0))) (nI_l (by omega)) ?_
                refine xx_lor dX9_part_91 ?_
                obtain ⟨vv0, ev0⟩ : ∃ v, v = vv1 * 65536 + yr_p (N R9).natAbs (4 * k + 0) := ⟨_, rfl⟩
                have lv0 : vv0 < 18446744073709551616 := by omega
                refine xx_eql (y := lN vv0) (by rw [wb_or (by omega) (by omega), yr_or lt9, ev0]) ?_
                refine xx_lstore_n dX9_part_92 (by decide) ?_
                refine xx_clv (lv2 := [(0, .ref b), (1, .int bl), (2, .int (nI k)), (3, .long (lN vv0)), (5, .int (nI R9)), (6, .int 0), (7, .int (nI (4 * k + 0)))]) rfl ?_
                refine xx_iinc (v := (-1)) dX9_part_93 rfl (by decide) (by decide) ?_
                refine xx_clv (lv2 := [(0, .ref b), (1, .int bl), (2, .int (nI k)), (3, .long (lN vv0)), (5, .int (nI R9)), (6, .int (-1)), (7, .int (nI (4 * k + 0)))]) rfl ?_
                refine xx_goto (tgt := 31) dX9_part_96 (by decide) ?_
                refine xx_iload dX9_part_31 rfl ?_
                refine xx_if_lt (tgt := 99) dX9_part_33 (by decide) (fun j33 => ?_) (fun h => absurd (by decide) h)
                refine xx_lload_n dX9_part_99 rfl ?_
                exact xx_lret dX9_part_100 rfl ⟨zq1, oq1, Or.inl ⟨⟨k, hk, rfl, by rw [← yr_4, ev0, ev1, ev2, ev3, Nat.zero_mul, Nat.zero_add]⟩, hbq1⟩⟩
            · have j70 : ¬ len ≤ 4 * k + 1 := fun hq9 => j70 ((nI_leI (a := len) (b := 4 * k + 1) (by omega) (by omega)).mpr hq9)
              refine xx_aload_n dX9_part_73 rfl ?_
              refine xx_get xx_c9 dX9_part_74 wf_X9_8 (j := 1) (by decide) hbq1 rfl ?_
              refine xx_bipush (v := 40) dX9_part_77 (by decide) ?_
              refine xx_iload dX9_part_79 rfl ?_
              refine xx_imul dX9_part_81 ?_
              refine xx_eqi (y := nI (40 * R9)) (pk_mul 40 R9) ?_
              refine xx_iload dX9_part_82 rfl ?_
              refine xx_iadd dX9_part_84 ?_
              refine xx_eqi (y := nI (40 * R9 + (4 * k + 1))) (nI_add (40 * R9) (4 * k + 1)) ?_
              refine xx_iald dX9_part_85 ((oq1 (b + 1) (by omega)).trans p1) (vp_in_nI (by omega) (by decide)) ?_
              refine xx_eqi (y := nI (yr_p (N R9).natAbs (4 * k + 1))) (by rw [nI_clamp (by omega)]; exact p5 _ (by omega)) ?_
              refine xx_goto (tgt := 90) dX9_part_86 (by decide) ?_
              have lt9 : yr_p (N R9).natAbs (4 * k + 1) < 65536 := Nat.mod_lt _ (by decide)
              refine xx_i2l dX9_part_90 ?_
              refine xx_eql (y := lN (yr_p (N R9).natAbs (4 * k + 1))) (nI_l (by omega)) ?_
              refine xx_lor dX9_part_91 ?_
              obtain ⟨vv1, ev1⟩ : ∃ v, v = vv2 * 65536 + yr_p (N R9).natAbs (4 * k + 1) := ⟨_, rfl⟩
              have lv1 : vv1 < 281474976710656 := by omega
              refine xx_eql (y := lN vv1) (by rw [wb_or (by omega) (by omega), yr_or lt9, ev1]) ?_
              refine xx_lstore_n dX9_part_92 (by decide) ?_
              refine xx_clv (lv2 := [(0, .ref b), (1, .int bl), (2, .int (nI k)), (3, .long (lN vv1)), (5, .int (nI R9)), (6, .int 1), (7, .int (nI (4 * k + 1)))]) rfl ?_
              refine xx_iinc (v := 0) dX9_part_93 rfl (by decide) (by decide) ?_
              refine xx_clv (lv2 := [(0, .ref b), (1, .int bl), (2, .int (nI k)), (3, .long (lN vv1)), (5, .int (nI R9)), (6, .int 0), (7, .int (nI (4 * k + 1)))]) rfl ?_
              refine xx_goto (tgt := 31) dX9_part_96 (by decide) ?_
              refine xx_iload dX9_part_31 rfl ?_
              refine xx_if_lt (tgt := 99) dX9_part_33 (by decide) (fun h => absurd h (by decide)) (fun j33 => ?_)
              refine xx_aload_n dX9_part_36 rfl ?_
              refine xx_get xx_c9 dX9_part_37 wf_X9_84 (j := 0) (by decide) hbq1 rfl ?_
              refine xx_if_ne (tgt := 99) dX9_part_40 (by decide) (fun h => absurd rfl h) (fun j40 => ?_)
              refine xx_iload_n dX9_part_43 rfl ?_
              refine xx_bipush (v := 20) dX9_part_44 (by decide) ?_
              refine xx_icmp_ge (tgt := 99) dX9_part_46 (by decide) (fun h => absurd h (nI_ge (a := k) (b := 20) (by omega) (by omega))) (fun j46 => ?_)
              refine xx_iconst (v := 4) dX9_part_49 (by decide) ?_
              refine xx_iload_n dX9_part_50 rfl ?_
              refine xx_imul dX9_part_51 ?_
              refine xx_eqi (y := nI (4 * k)) (pk_mul 4 k) ?_
              refine xx_iload dX9_part_52 rfl ?_
              refine xx_iadd dX9_part_54 ?_
              refine xx_eqi (y := nI (4 * k + 0)) (nI_add (4 * k) 0) ?_
              refine xx_istore dX9_part_55 (by decide) ?_
              refine xx_clv (lv2 := [(0, .ref b), (1, .int bl), (2, .int (nI k)), (3, .long (lN vv1)), (5, .int (nI R9)), (6, .int 0), (7, .int (nI (4 * k + 0)))]) rfl ?_
              refine xx_lload_n dX9_part_57 rfl ?_
              refine xx_bipush (v := 16) dX9_part_58 (by decide) ?_
              refine xx_lshl dX9_part_60 ?_
              refine xx_eql (y := lN (vv1 * 65536)) (wb_shl _ (k := 16) (by decide)) ?_
              refine xx_iload dX9_part_61 rfl ?_
              refine xx_aload_n dX9_part_63 rfl ?_
              refine xx_get xx_c9 dX9_part_64 wf_X9_14 (j := 2) (by decide) hbq1 rfl ?_
              refine xx_iload dX9_part_67 rfl ?_
              refine xx_iald dX9_part_69 ((oq1 (b + 2) (by omega)).trans p2) (vp_in_nI (by omega) (by decide)) ?_
              refine xx_eqi (y := nI len) (by rw [nI_clamp (by omega)]; exact p3) ?_
              refine xx_icmp_ge (tgt := 89) dX9_part_70 (by decide) (fun j70 => ?_) (fun j70 => ?_)
              · have j70 : len ≤ 4 * k + 0 := (nI_leI (a := len) (b := 4 * k + 0) (by omega) (by omega)).mp j70
                refine xx_iconst (v := 0) dX9_part_89 (by decide) ?_
                have lt9 : yr_p (N R9).natAbs (4 * k + 0) < 65536 := Nat.mod_lt _ (by decide)
                refine xx_cst (st2 := [.int (nI (yr_p (N R9).natAbs (4 * k + 0))), .long (lN (vv1 * 65536))]) (by rw [p6 (4 * k + 0) (by omega)]; rfl) ?_
                refine xx_i2l dX9_part_90 ?_
                refine xx_eql (y := lN (yr_p (N R9).natAbs (4 * k + 0))) (nI_l (by omega)) ?_
                refine xx_lor dX9_part_91 ?_
                obtain ⟨vv0, ev0⟩ : ∃ v, v = vv1 * 65536 + yr_p (N R9).natAbs (4 * k + 0) := ⟨_, rfl⟩
                have lv0 : vv0 < 18446744073709551616 := by omega
                refine xx_eql (y := lN vv0) (by rw [wb_or (by omega) (by omega), yr_or lt9, ev0]) ?_
                refine xx_lstore_n dX9_part_92 (by decide) ?_
                refine xx_clv (lv2 := [(0, .ref b), (1, .int bl), (2, .int (nI k)), (3, .long (lN vv0)), (5, .int (nI R9)), (6, .int 0), (7, .int (nI (4 * k + 0)))]) rfl ?_
                refine xx_iinc (v := (-1)) dX9_part_93 rfl (by decide) (by decide) ?_
                refine xx_clv (lv2 := [(0, .ref b), (1, .int bl), (2, .int (nI k)), (3, .long (lN vv0)), (5, .int (nI R9)), (6, .int (-1)), (7, .int (nI (4 * k + 0)))]) rfl ?_
                refine xx_goto (tgt := 31) dX9_part_96 (by decide) ?_
                refine xx_iload dX9_part_31 rfl ?_
                refine xx_if_lt (tgt := 99) dX9_part_33 (by decide) (fun j33 => ?_) (fun h => absurd (by decide) h)
                refine xx_lload_n dX9_part_99 rfl ?_
                exact xx_lret dX9_part_100 rfl ⟨zq1, oq1, Or.inl ⟨⟨k, hk, rfl, by rw [← yr_4, ev0, ev1, ev2, ev3, Nat.zero_mul, Nat.zero_add]⟩, hbq1⟩⟩
              · have j70 : ¬ len ≤ 4 * k + 0 := fun hq9 => j70 ((nI_leI (a := len) (b := 4 * k + 0) (by omega) (by omega)).mpr hq9)
                refine xx_aload_n dX9_part_73 rfl ?_
                refine xx_get xx_c9 dX9_part_74 wf_X9_8 (j := 1) (by decide) hbq1 rfl ?_
                refine xx_bipush (v := 40) dX9_part_77 (by decide) ?_
                refine xx_iload dX9_part_79 rfl ?_
                refine xx_imul dX9_part_81 ?_
                refine xx_eqi (y := nI (40 * R9)) (pk_mul 40 R9) ?_
                refine xx_iload dX9_part_82 rfl ?_
                refine xx_iadd dX9_part_84 ?_
                refine xx_eqi (y := nI (40 * R9 + (4 * k + 0))) (nI_add (40 * R9) (4 * k + 0)) ?_
                refine xx_iald dX9_part_85 ((oq1 (b + 1) (by omega)).trans p1) (vp_in_nI (by omega) (by decide)) ?_
                refine xx_eqi (y := nI (yr_p (N R9).natAbs (4 * k + 0))) (by rw [nI_clamp (by omega)]; exact p5 _ (by omega)) ?_
                refine xx_goto (tgt := 90) dX9_part_86 (by decide) ?_
                have lt9 : yr_p (N R9).natAbs (4 * k + 0) < 65536 := Nat.mod_lt _ (by decide)
                refine xx_i2l dX9_part_90 ?_
                refine xx_eql (y := lN (yr_p (N R9).natAbs (4 * k + 0))) (nI_l (by omega)) ?_
                refine xx_lor dX9_part_91 ?_
                obtain ⟨vv0, ev0⟩ : ∃ v, v = vv1 * 65536 + yr_p (N R9).natAbs (4 * k + 0) := ⟨_, rfl⟩
                have lv0 : vv0 < 18446744073709551616 := by omega
                refine xx_eql (y := lN vv0) (by rw [wb_or (by omega) (by omega), yr_or lt9, ev0]) ?_
                refine xx_lstore_n dX9_part_92 (by decide) ?_
                refine xx_clv (lv2 := [(0, .ref b), (1, .int bl), (2, .int (nI k)), (3, .long (lN vv0)), (5, .int (nI R9)), (6, .int 0), (7, .int (nI (4 * k + 0)))]) rfl ?_
                refine xx_iinc (v := (-1)) dX9_part_93 rfl (by decide) (by decide) ?_
                refine xx_clv (lv2 := [(0, .ref b), (1, .int bl), (2, .int (nI k)), (3, .long (lN vv0)), (5, .int (nI R9)), (6, .int (-1)), (7, .int (nI (4 * k + 0)))]) rfl ?_
                refine xx_goto (tgt := 31) dX9_part_96 (by decide) ?_
                refine xx_iload dX9_part_31 rfl ?_
                refine xx_if_lt (tgt := 99) dX9_part_33 (by decide) (fun j33 => ?_) (fun h => absurd (by decide) h)
                refine xx_lload_n dX9_part_99 rfl ?_
                exact xx_lret dX9_part_100 rfl ⟨zq1, oq1, Or.inl ⟨⟨k, hk, rfl, by rw [← yr_4, ev0, ev1, ev2, ev3, Nat.zero_mul, Nat.zero_add]⟩, hbq1⟩⟩
    · refine xx_bipush (v := 17) dX9_part_19 (by decide) ?_
      refine xx_goto (tgt := 26) dX9_part_21 (by decide) ?_
      refine xx_cst (st2 := [.int (nI R9)]) (by rw [hR9, if_neg j16]; rfl) ?_
      refine xx_istore dX9_part_26 (by decide) ?_
      refine xx_clv (lv2 := [(0, .ref b), (1, .int bl), (2, .int (nI k)), (3, .long 0), (5, .int (nI R9))]) rfl ?_
      refine xx_iconst (v := 3) dX9_part_28 (by decide) ?_
      refine xx_istore dX9_part_29 (by decide) ?_
      refine xx_clv (lv2 := [(0, .ref b), (1, .int bl), (2, .int (nI k)), (3, .long 0), (5, .int (nI R9)), (6, .int 3)]) rfl ?_
      refine xx_iload dX9_part_31 rfl ?_
      refine xx_if_lt (tgt := 99) dX9_part_33 (by decide) (fun h => absurd h (by decide)) (fun j33 => ?_)
      refine xx_aload_n dX9_part_36 rfl ?_
      refine xx_get xx_c9 dX9_part_37 wf_X9_84 (j := 0) (by decide) hbq1 rfl ?_
      refine xx_if_ne (tgt := 99) dX9_part_40 (by decide) (fun h => absurd rfl h) (fun j40 => ?_)
      refine xx_iload_n dX9_part_43 rfl ?_
      refine xx_bipush (v := 20) dX9_part_44 (by decide) ?_
      refine xx_icmp_ge (tgt := 99) dX9_part_46 (by decide) (fun j46 => ?_) (fun j46 => ?_)
      · have j46 : 20 ≤ k := (nI_leI (a := 20) (b := k) (by omega) (by omega)).mp j46
        refine xx_lload_n dX9_part_99 rfl ?_
        exact xx_lret dX9_part_100 rfl ⟨zq1, oq1, Or.inl ⟨⟨k, hk, rfl, by rw [p7 k (by omega)]; rfl⟩, hbq1⟩⟩
      · have j46 : ¬ 20 ≤ k := fun hq9 => j46 ((nI_leI (a := 20) (b := k) (by omega) (by omega)).mpr hq9)
        refine xx_iconst (v := 4) dX9_part_49 (by decide) ?_
        refine xx_iload_n dX9_part_50 rfl ?_
        refine xx_imul dX9_part_51 ?_
        refine xx_eqi (y := nI (4 * k)) (pk_mul 4 k) ?_
        refine xx_iload dX9_part_52 rfl ?_
        refine xx_iadd dX9_part_54 ?_
        refine xx_eqi (y := nI (4 * k + 3)) (nI_add (4 * k) 3) ?_
        refine xx_istore dX9_part_55 (by decide) ?_
        refine xx_clv (lv2 := [(0, .ref b), (1, .int bl), (2, .int (nI k)), (3, .long 0), (5, .int (nI R9)), (6, .int 3), (7, .int (nI (4 * k + 3)))]) rfl ?_
        refine xx_lload_n dX9_part_57 rfl ?_
        refine xx_bipush (v := 16) dX9_part_58 (by decide) ?_
        refine xx_lshl dX9_part_60 ?_
        refine xx_eql (y := lN (0 * 65536)) (by decide) ?_
        refine xx_iload dX9_part_61 rfl ?_
        refine xx_aload_n dX9_part_63 rfl ?_
        refine xx_get xx_c9 dX9_part_64 wf_X9_14 (j := 2) (by decide) hbq1 rfl ?_
        refine xx_iload dX9_part_67 rfl ?_
        refine xx_iald dX9_part_69 ((oq1 (b + 2) (by omega)).trans p2) (vp_in_nI (by omega) (by decide)) ?_
        refine xx_eqi (y := nI len) (by rw [nI_clamp (by omega)]; exact p3) ?_
        refine xx_icmp_ge (tgt := 89) dX9_part_70 (by decide) (fun j70 => ?_) (fun j70 => ?_)
        · have j70 : len ≤ 4 * k + 3 := (nI_leI (a := len) (b := 4 * k + 3) (by omega) (by omega)).mp j70
          refine xx_iconst (v := 0) dX9_part_89 (by decide) ?_
          have lt9 : yr_p (N R9).natAbs (4 * k + 3) < 65536 := Nat.mod_lt _ (by decide)
          refine xx_cst (st2 := [.int (nI (yr_p (N R9).natAbs (4 * k + 3))), .long (lN (0 * 65536))]) (by rw [p6 (4 * k + 3) (by omega)]; rfl) ?_
          refine xx_i2l dX9_part_90 ?_
          refine xx_eql (y := lN (yr_p (N R9).natAbs (4 * k + 3))) (nI_l (by omega)) ?_
          refine xx_lor dX9_part_91 ?_
          obtain ⟨vv3, ev3⟩ : ∃ v, v = 0 * 65536 + yr_p (N R9).natAbs (4 * k + 3) := ⟨_, rfl⟩
          have lv3 : vv3 < 65536 := by omega
          refine xx_eql (y := lN vv3) (by rw [wb_or (by decide) (by omega), yr_or lt9, ev3]) ?_
          refine xx_lstore_n dX9_part_92 (by decide) ?_
          refine xx_clv (lv2 := [(0, .ref b), (1, .int bl), (2, .int (nI k)), (3, .long (lN vv3)), (5, .int (nI R9)), (6, .int 3), (7, .int (nI (4 * k + 3)))]) rfl ?_
          refine xx_iinc (v := 2) dX9_part_93 rfl (by decide) (by decide) ?_
          refine xx_clv (lv2 := [(0, .ref b), (1, .int bl), (2, .int (nI k)), (3, .long (lN vv3)), (5, .int (nI R9)), (6, .int 2), (7, .int (nI (4 * k + 3)))]) rfl ?_
          refine xx_goto (tgt := 31) dX9_part_96 (by decide) ?_
          refine xx_iload dX9_part_31 rfl ?_
          refine xx_if_lt (tgt := 99) dX9_part_33 (by decide) (fun h => absurd h (by decide)) (fun j33 => ?_)
          refine xx_aload_n dX9_part_36 rfl ?_
          refine xx_get xx_c9 dX9_part_37 wf_X9_84 (j := 0) (by decide) hbq1 rfl ?_
          refine xx_if_ne (tgt := 99) dX9_part_40 (by decide) (fun h => absurd rfl h) (fun j40 => ?_)
          refine xx_iload_n dX9_part_43 rfl ?_
          refine xx_bipush (v := 20) dX9_part_44 (by decide) ?_
          refine xx_icmp_ge (tgt := 99) dX9_part_46 (by decide) (fun h => absurd h (nI_ge (a := k) (b := 20) (by omega) (by omega))) (fun j46 => ?_)
          refine xx_iconst (v := 4) dX9_part_49 (by decide) ?_
          refine xx_iload_n dX9_part_50 rfl ?_
          refine xx_imul dX9_part_51 ?_
          refine xx_eqi (y := nI (4 * k)) (pk_mul 4 k) ?_
          refine xx_iload dX9_part_52 rfl ?_
          refine xx_iadd dX9_part_54 ?_
          refine xx_eqi (y := nI (4 * k + 2)) (nI_add (4 * k) 2) ?_
          refine xx_istore dX9_part_55 (by decide) ?_
          refine xx_clv (lv2 := [(0, .ref b), (1, .int bl), (2, .int (nI k)), (3, .long (lN vv3)), (5, .int (nI R9)), (6, .int 2), (7, .int (nI (4 * k + 2)))]) rfl ?_
          refine xx_lload_n dX9_part_57 rfl ?_
          refine xx_bipush (v := 16) dX9_part_58 (by decide) ?_
          refine xx_lshl dX9_part_60 ?_
          refine xx_eql (y := lN (vv3 * 65536)) (wb_shl _ (k := 16) (by decide)) ?_
          refine xx_iload dX9_part_61 rfl ?_
          refine xx_aload_n dX9_part_63 rfl ?_
          refine xx_get xx_c9 dX9_part_64 wf_X9_14 (j := 2) (by decide) hbq1 rfl ?_
          refine xx_iload dX9_part_67 rfl ?_
          refine xx_iald dX9_part_69 ((oq1 (b + 2) (by omega)).trans p2) (vp_in_nI (by omega) (by decide)) ?_
          refine xx_eqi (y := nI len) (by rw [nI_clamp (by omega)]; exact p3) ?_
          refine xx_icmp_ge (tgt := 89) dX9_part_70 (by decide) (fun j70 => ?_) (fun j70 => ?_)
          · have j70 : len ≤ 4 * k + 2 := (nI_leI (a := len) (b := 4 * k + 2) (by omega) (by omega)).mp j70
            refine xx_iconst (v := 0) dX9_part_89 (by decide) ?_
            have lt9 : yr_p (N R9).natAbs (4 * k + 2) < 65536 := Nat.mod_lt _ (by decide)
            refine xx_cst (st2 := [.int (nI (yr_p (N R9).natAbs (4 * k + 2))), .long (lN (vv3 * 65536))]) (by rw [p6 (4 * k + 2) (by omega)]; rfl) ?_
            refine xx_i2l dX9_part_90 ?_
            refine xx_eql (y := lN (yr_p (N R9).natAbs (4 * k + 2))) (nI_l (by omega)) ?_
            refine xx_lor dX9_part_91 ?_
            obtain ⟨vv2, ev2⟩ : ∃ v, v = vv3 * 65536 + yr_p (N R9).natAbs (4 * k + 2) := ⟨_, rfl⟩
            have lv2 : vv2 < 4294967296 := by omega
            refine xx_eql (y := lN vv2) (by rw [wb_or (by omega) (by omega), yr_or lt9, ev2]) ?_
            refine xx_lstore_n dX9_part_92 (by decide) ?_
            refine xx_clv (lv2 := [(0, .ref b), (1, .int bl), (2, .int (nI k)), (3, .long (lN vv2)), (5, .int (nI R9)), (6, .int 2), (7, .int (nI (4 * k + 2)))]) rfl ?_
            refine xx_iinc (v := 1) dX9_part_93 rfl (by decide) (by decide) ?_
            refine xx_clv (lv2 := [(0, .ref b), (1, .int bl), (2, .int (nI k)), (3, .long (lN vv2)), (5, .int (nI R9)), (6, .int 1), (7, .int (nI (4 * k + 2)))]) rfl ?_
            refine xx_goto (tgt := 31) dX9_part_96 (by decide) ?_
            refine xx_iload dX9_part_31 rfl ?_
            refine xx_if_lt (tgt := 99) dX9_part_33 (by decide) (fun h => absurd h (by decide)) (fun j33 => ?_)
            refine xx_aload_n dX9_part_36 rfl ?_
            refine xx_get xx_c9 dX9_part_37 wf_X9_84 (j := 0) (by decide) hbq1 rfl ?_
            refine xx_if_ne (tgt := 99) dX9_part_40 (by decide) (fun h => absurd rfl h) (fun j40 => ?_)
            refine xx_iload_n dX9_part_43 rfl ?_
            refine xx_bipush (v := 20) dX9_part_44 (by decide) ?_
            refine xx_icmp_ge (tgt := 99) dX9_part_46 (by decide) (fun h => absurd h (nI_ge (a := k) (b := 20) (by omega) (by omega))) (fun j46 => ?_)
            refine xx_iconst (v := 4) dX9_part_49 (by decide) ?_
            refine xx_iload_n dX9_part_50 rfl ?_
            refine xx_imul dX9_part_51 ?_
            refine xx_eqi (y := nI (4 * k)) (pk_mul 4 k) ?_
            refine xx_iload dX9_part_52 rfl ?_
            refine xx_iadd dX9_part_54 ?_
            refine xx_eqi (y := nI (4 * k + 1)) (nI_add (4 * k) 1) ?_
            refine xx_istore dX9_part_55 (by decide) ?_
            refine xx_clv (lv2 := [(0, .ref b), (1, .int bl), (2, .int (nI k)), (3, .long (lN vv2)), (5, .int (nI R9)), (6, .int 1), (7, .int (nI (4 * k + 1)))]) rfl ?_
            refine xx_lload_n dX9_part_57 rfl ?_
            refine xx_bipush (v := 16) dX9_part_58 (by decide) ?_
            refine xx_lshl dX9_part_60 ?_
            refine xx_eql (y := lN (vv2 * 65536)) (wb_shl _ (k := 16) (by decide)) ?_
            refine xx_iload dX9_part_61 rfl ?_
            refine xx_aload_n dX9_part_63 rfl ?_
            refine xx_get xx_c9 dX9_part_64 wf_X9_14 (j := 2) (by decide) hbq1 rfl ?_
            refine xx_iload dX9_part_67 rfl ?_
            refine xx_iald dX9_part_69 ((oq1 (b + 2) (by omega)).trans p2) (vp_in_nI (by omega) (by decide)) ?_
            refine xx_eqi (y := nI len) (by rw [nI_clamp (by omega)]; exact p3) ?_
            refine xx_icmp_ge (tgt := 89) dX9_part_70 (by decide) (fun j70 => ?_) (fun j70 => ?_)
            · have j70 : len ≤ 4 * k + 1 := (nI_leI (a := len) (b := 4 * k + 1) (by omega) (by omega)).mp j70
              refine xx_iconst (v := 0) dX9_part_89 (by decide) ?_
              have lt9 : yr_p (N R9).natAbs (4 * k + 1) < 65536 := Nat.mod_lt _ (by decide)
              refine xx_cst (st2 := [.int (nI (yr_p (N R9).natAbs (4 * k + 1))), .long (lN (vv2 * 65536))]) (by rw [p6 (4 * k + 1) (by omega)]; rfl) ?_
              refine xx_i2l dX9_part_90 ?_
              refine xx_eql (y := lN (yr_p (N R9).natAbs (4 * k + 1))) (nI_l (by omega)) ?_
              refine xx_lor dX9_part_91 ?_
              obtain ⟨vv1, ev1⟩ : ∃ v, v = vv2 * 65536 + yr_p (N R9).natAbs (4 * k + 1) := ⟨_, rfl⟩
              have lv1 : vv1 < 281474976710656 := by omega
              refine xx_eql (y := lN vv1) (by rw [wb_or (by omega) (by omega), yr_or lt9, ev1]) ?_
              refine xx_lstore_n dX9_part_92 (by decide) ?_
              refine xx_clv (lv2 := [(0, .ref b), (1, .int bl), (2, .int (nI k)), (3, .long (lN vv1)), (5, .int (nI R9)), (6, .int 1), (7, .int (nI (4 * k + 1)))]) rfl ?_
              refine xx_iinc (v := 0) dX9_part_93 rfl (by decide) (by decide) ?_
              refine xx_clv (lv2 := [(0, .ref b), (1, .int bl), (2, .int (nI k)), (3, .long (lN vv1)), (5, .int (nI R9)), (6, .int 0), (7, .int (nI (4 * k + 1)))]) rfl ?_
              refine xx_goto (tgt := 31) dX9_part_96 (by decide) ?_
              refine xx_iload dX9_part_31 rfl ?_
              refine xx_if_lt (tgt := 99) dX9_part_33 (by decide) (fun h => absurd h (by decide)) (fun j33 => ?_)
              refine xx_aload_n dX9_part_36 rfl ?_
              refine xx_get xx_c9 dX9_part_37 wf_X9_84 (j := 0) (by decide) hbq1 rfl ?_
              refine xx_if_ne (tgt := 99) dX9_part_40 (by decide) (fun h => absurd rfl h) (fun j40 => ?_)
              refine xx_iload_n dX9_part_43 rfl ?_
              refine xx_bipush (v := 20) dX9_part_44 (by decide) ?_
              refine xx_icmp_ge (tgt := 99) dX9_part_46 (by decide) (fun h => absurd h (nI_ge (a := k) (b := 20) (by omega) (by omega))) (fun j46 => ?_)
              refine xx_iconst (v := 4) dX9_part_49 (by decide) ?_
              refine xx_iload_n dX9_part_50 rfl ?_
              refine xx_imul dX9_part_51 ?_
              refine xx_eqi (y := nI (4 * k)) (pk_mul 4 k) ?_
              refine xx_iload dX9_part_52 rfl ?_
              refine xx_iadd dX9_part_54 ?_
              refine xx_eqi (y := nI (4 * k + 0)) (nI_add (4 * k) 0) ?_
              refine xx_istore dX9_part_55 (by decide) ?_
              refine xx_clv (lv2 := [(0, .ref b), (1, .int bl), (2, .int (nI k)), (3, .long (lN vv1)), (5, .int (nI R9)), (6, .int 0), (7, .int (nI (4 * k + 0)))]) rfl ?_
              refine xx_lload_n dX9_part_57 rfl ?_
              refine xx_bipush (v := 16) dX9_part_58 (by decide) ?_
              refine xx_lshl dX9_part_60 ?_
              refine xx_eql (y := lN (vv1 * 65536)) (wb_shl _ (k := 16) (by decide)) ?_
              refine xx_iload dX9_part_61 rfl ?_
              refine xx_aload_n dX9_part_63 rfl ?_
              refine xx_get xx_c9 dX9_part_64 wf_X9_14 (j := 2) (by decide) hbq1 rfl ?_
              refine xx_iload dX9_part_67 rfl ?_
              refine xx_iald dX9_part_69 ((oq1 (b + 2) (by omega)).trans p2) (vp_in_nI (by omega) (by decide)) ?_
              refine xx_eqi (y := nI len) (by rw [nI_clamp (by omega)]; exact p3) ?_
              refine xx_icmp_ge (tgt := 89) dX9_part_70 (by decide) (fun j70 => ?_) (fun j70 => ?_)
              · have j70 : len ≤ 4 * k + 0 := (nI_leI (a := len) (b := 4 * k + 0) (by omega) (by omega)).mp j70
                refine xx_iconst (v := 0) dX9_part_89 (by decide) ?_
                have lt9 : yr_p (N R9).natAbs (4 * k + 0) < 65536 := Nat.mod_lt _ (by decide)
                refine xx_cst (st2 := [.int (nI (yr_p (N R9).natAbs (4 * k + 0))), .long (lN (vv1 * 65536))]) (by rw [p6 (4 * k + 0) (by omega)]; rfl) ?_
                refine xx_i2l dX9_part_90 ?_
                refine xx_eql (y := lN (yr_p (N R9).natAbs (4 * k + 0))) (nI_l (by omega)) ?_
                refine xx_lor dX9_part_91 ?_
                obtain ⟨vv0, ev0⟩ : ∃ v, v = vv1 * 65536 + yr_p (N R9).natAbs (4 * k + 0) := ⟨_, rfl⟩
                have lv0 : vv0 < 18446744073709551616 := by omega
                refine xx_eql (y := lN vv0) (by rw [wb_or (by omega) (by omega), yr_or lt9, ev0]) ?_
                refine xx_lstore_n dX9_part_92 (by decide) ?_
                refine xx_clv (lv2 := [(0, .ref b), (1, .int bl), (2, .int (nI k)), (3, .long (lN vv0)), (5, .int (nI R9)), (6, .int 0), (7, .int (nI (4 * k + 0)))]) rfl ?_
                refine xx_iinc (v := (-1)) dX9_part_93 rfl (by decide) (by decide) ?_
                refine xx_clv (lv2 := [(0, .ref b), (1, .int bl), (2, .int (nI k)), (3, .long (lN vv0)), (5, .int (nI R9)), (6, .int (-1)), (7, .int (nI (4 * k + 0)))]) rfl ?_
                refine xx_goto (tgt := 31) dX9_part_96 (by decide) ?_
                refine xx_iload dX9_part_31 rfl ?_
                refine xx_if_lt (tgt := 99) dX9_part_33 (by decide) (fun j33 => ?_) (fun h => absurd (by decide) h)
                refine xx_lload_n dX9_part_99 rfl ?_
                exact xx_lret dX9_part_100 rfl ⟨zq1, oq1, Or.inl ⟨⟨k, hk, rfl, by rw [← yr_4, ev0, ev1, ev2, ev3, Nat.zero_mul, Nat.zero_add]⟩, hbq1⟩⟩
              · have j70 : ¬ len ≤ 4 * k + 0 := fun hq9 => j70 ((nI_leI (a := len) (b := 4 * k + 0) (by omega) (by omega)).mpr hq9)
                refine xx_aload_n dX9_part_73 rfl ?_
                refine xx_get xx_c9 dX9_part_74 wf_X9_8 (j := 1) (by decide) hbq1 rfl ?_
                refine xx_bipush (v := 40) dX9_part_77 (by decide) ?_
                refine xx_iload dX9_part_79 rfl ?_
                refine xx_imul dX9_part_81 ?_
                refine xx_eqi (y := nI (40 * R9)) (pk_mul 40 R9) ?_
                refine xx_iload dX9_part_82 rfl ?_
                refine xx_iadd dX9_part_84 ?_
                refine xx_eqi (y := nI (40 * R9 + (4 * k + 0))) (nI_add (40 * R9) (4 * k + 0)) ?_
                refine xx_iald dX9_part_85 ((oq1 (b + 1) (by omega)).trans p1) (vp_in_nI (by omega) (by decide)) ?_
                refine xx_eqi (y := nI (yr_p (N R9).natAbs (4 * k + 0))) (by rw [nI_clamp (by omega)]; exact p5 _ (by omega)) ?_
                refine xx_goto (tgt := 90) dX9_part_86 (by decide) ?_
                have lt9 : yr_p (N R9).natAbs (4 * k + 0) < 65536 := Nat.mod_lt _ (by decide)
                refine xx_i2l dX9_part_90 ?_
                refine xx_eql (y := lN (yr_p (N R9).natAbs (4 * k + 0))) (nI_l (by omega)) ?_
                refine xx_lor dX9_part_91 ?_
                obtain ⟨vv0, ev0⟩ : ∃ v, v = vv1 * 65536 + yr_p (N R9).natAbs (4 * k + 0) := ⟨_, rfl⟩
                have lv0 : vv0 < 18446744073709551616 := by omega
                refine xx_eql (y := lN vv0) (by rw [wb_or (by omega) (by omega), yr_or lt9, ev0]) ?_
                refine xx_lstore_n dX9_part_92 (by decide) ?_
                refine xx_clv (lv2 := [(0, .ref b), (1, .int bl), (2, .int (nI k)), (3, .long (lN vv0)), (5, .int (nI R9)), (6, .int 0), (7, .int (nI (4 * k + 0)))]) rfl ?_
                refine xx_iinc (v := (-1)) dX9_part_93 rfl (by decide) (by decide) ?_
                refine xx_clv (lv2 := [(0, .ref b), (1, .int bl), (2, .int (nI k)), (3, .long (lN vv0)), (5, .int (nI R9)), (6, .int (-1)), (7, .int (nI (4 * k + 0)))]) rfl ?_
                refine xx_goto (tgt := 31) dX9_part_96 (by decide) ?_
                refine xx_iload dX9_part_31 rfl ?_
                refine xx_if_lt (tgt := 99) dX9_part_33 (by decide) (fun j33 => ?_) (fun h => absurd (by decide) h)
                refine xx_lload_n dX9_part_99 rfl ?_
                exact xx_lret dX9_part_100 rfl ⟨zq1, oq1, Or.inl ⟨⟨k, hk, rfl, by rw [← yr_4, ev0, ev1, ev2, ev3, Nat.zero_mul, Nat.zero_add]⟩, hbq1⟩⟩
            · have j70 : ¬ len ≤ 4 * k + 1 := fun hq9 => j70 ((nI_leI (a := len) (b := 4 * k + 1) (by omega) (by omega)).mpr hq9)
              refine xx_aload_n dX9_part_73 rfl ?_
              refine xx_get xx_c9 dX9_part_74 wf_X9_8 (j := 1) (by decide) hbq1 rfl ?_
              refine xx_bipush (v := 40) dX9_part_77 (by decide) ?_
              refine xx_iload dX9_part_79 rfl ?_
              refine xx_imul dX9_part_81 ?_
              refine xx_eqi (y := nI (40 * R9)) (pk_mul 40 R9) ?_
              refine xx_iload dX9_part_82 rfl ?_
              refine xx_iadd dX9_part_84 ?_
              refine xx_eqi (y := nI (40 * R9 + (4 * k + 1))) (nI_add (40 * R9) (4 * k + 1)) ?_
              refine xx_iald dX9_part_85 ((oq1 (b + 1) (by omega)).trans p1) (vp_in_nI (by omega) (by decide)) ?_
              refine xx_eqi (y := nI (yr_p (N R9).natAbs (4 * k + 1))) (by rw [nI_clamp (by omega)]; exact p5 _ (by omega)) ?_
              refine xx_goto (tgt := 90) dX9_part_86 (by decide) ?_
              have lt9 : yr_p (N R9).natAbs (4 * k + 1) < 65536 := Nat.mod_lt _ (by decide)
              refine xx_i2l dX9_part_90 ?_
              refine xx_eql (y := lN (yr_p (N R9).natAbs (4 * k + 1))) (nI_l (by omega)) ?_
              refine xx_lor dX9_part_91 ?_
              obtain ⟨vv1, ev1⟩ : ∃ v, v = vv2 * 65536 + yr_p (N R9).natAbs (4 * k + 1) := ⟨_, rfl⟩
              have lv1 : vv1 < 281474976710656 := by omega
              refine xx_eql (y := lN vv1) (by rw [wb_or (by omega) (by omega), yr_or lt9, ev1]) ?_
              refine xx_lstore_n dX9_part_92 (by decide) ?_
              refine xx_clv (lv2 := [(0, .ref b), (1, .int bl), (2, .int (nI k)), (3, .long (lN vv1)), (5, .int (nI R9)), (6, .int 1), (7, .int (nI (4 * k + 1)))]) rfl ?_
              refine xx_iinc (v := 0) dX9_part_93 rfl (by decide) (by decide) ?_
              refine xx_clv (lv2 := [(0, .ref b), (1, .int bl), (2, .int (nI k)), (3, .long (lN vv1)), (5, .int (nI R9)), (6, .int 0), (7, .int (nI (4 * k + 1)))]) rfl ?_
              refine xx_goto (tgt := 31) dX9_part_96 (by decide) ?_
              refine xx_iload dX9_part_31 rfl ?_
              refine xx_if_lt (tgt := 99) dX9_part_33 (by decide) (fun h => absurd h (by decide)) (fun j33 => ?_)
              refine xx_aload_n dX9_part_36 rfl ?_
              refine xx_get xx_c9 dX9_part_37 wf_X9_84 (j := 0) (by decide) hbq1 rfl ?_
              refine xx_if_ne (tgt := 99) dX9_part_40 (by decide) (fun h => absurd rfl h) (fun j40 => ?_)
              refine xx_iload_n dX9_part_43 rfl ?_
              refine xx_bipush (v := 20) dX9_part_44 (by decide) ?_
              refine xx_icmp_ge (tgt := 99) dX9_part_46 (by decide) (fun h => absurd h (nI_ge (a := k) (b := 20) (by omega) (by omega))) (fun j46 => ?_)
              refine xx_iconst (v := 4) dX9_part_49 (by decide) ?_
              refine xx_iload_n dX9_part_50 rfl ?_
              refine xx_imul dX9_part_51 ?_
              refine xx_eqi (y := nI (4 * k)) (pk_mul 4 k) ?_
              refine xx_iload dX9_part_52 rfl ?_
              refine xx_iadd dX9_part_54 ?_
              refine xx_eqi (y := nI (4 * k + 0)) (nI_add (4 * k) 0) ?_
              refine xx_istore dX9_part_55 (by decide) ?_
              refine xx_clv (lv2 := [(0, .ref b), (1, .int bl), (2, .int (nI k)), (3, .long (lN vv1)), (5, .int (nI R9)), (6, .int 0), (7, .int (nI (4 * k + 0)))]) rfl ?_
              refine xx_lload_n dX9_part_57 rfl ?_
              refine xx_bipush (v := 16) dX9_part_58 (by decide) ?_
              refine xx_lshl dX9_part_60 ?_
              refine xx_eql (y := lN (vv1 * 65536)) (wb_shl _ (k := 16) (by decide)) ?_
              refine xx_iload dX9_part_61 rfl ?_
              refine xx_aload_n dX9_part_63 rfl ?_
              refine xx_get xx_c9 dX9_part_64 wf_X9_14 (j := 2) (by decide) hbq1 rfl ?_
              refine xx_iload dX9_part_67 rfl ?_
              refine xx_iald dX9_part_69 ((oq1 (b + 2) (by omega)).trans p2) (vp_in_nI (by omega) (by decide)) ?_
              refine xx_eqi (y := nI len) (by rw [nI_clamp (by omega)]; exact p3) ?_
              refine xx_icmp_ge (tgt := 89) dX9_part_70 (by decide) (fun j70 => ?_) (fun j70 => ?_)
              · have j70 : len ≤ 4 * k + 0 := (nI_leI (a := len) (b := 4 * k + 0) (by omega) (by omega)).mp j70
                refine xx_iconst (v := 0) dX9_part_89 (by decide) ?_
                have lt9 : yr_p (N R9).natAbs (4 * k + 0) < 65536 := Nat.mod_lt _ (by decide)
                refine xx_cst (st2 := [.int (nI (yr_p (N R9).natAbs (4 * k + 0))), .long (lN (vv1 * 65536))]) (by rw [p6 (4 * k + 0) (by omega)]; rfl) ?_
                refine xx_i2l dX9_part_90 ?_
                refine xx_eql (y := lN (yr_p (N R9).natAbs (4 * k + 0))) (nI_l (by omega)) ?_
                refine xx_lor dX9_part_91 ?_
                obtain ⟨vv0, ev0⟩ : ∃ v, v = vv1 * 65536 + yr_p (N R9).natAbs (4 * k + 0) := ⟨_, rfl⟩
                have lv0 : vv0 < 18446744073709551616 := by omega
                refine xx_eql (y := lN vv0) (by rw [wb_or (by omega) (by omega), yr_or lt9, ev0]) ?_
                refine xx_lstore_n dX9_part_92 (by decide) ?_
                refine xx_clv (lv2 := [(0, .ref b), (1, .int bl), (2, .int (nI k)), (3, .long (lN vv0)), (5, .int (nI R9)), (6, .int 0), (7, .int (nI (4 * k + 0)))]) rfl ?_
                refine xx_iinc (v := (-1)) dX9_part_93 rfl (by decide) (by decide) ?_
                refine xx_clv (lv2 := [(0, .ref b), (1, .int bl), (2, .int (nI k)), (3, .long (lN vv0)), (5, .int (nI R9)), (6, .int (-1)), (7, .int (nI (4 * k + 0)))]) rfl ?_
                refine xx_goto (tgt := 31) dX9_part_96 (by decide) ?_
                refine xx_iload dX9_part_31 rfl ?_
                refine xx_if_lt (tgt := 99) dX9_part_33 (by decide) (fun j33 => ?_) (fun h => absurd (by decide) h)
                refine xx_lload_n dX9_part_99 rfl ?_
                exact xx_lret dX9_part_100 rfl ⟨zq1, oq1, Or.inl ⟨⟨k, hk, rfl, by rw [← yr_4, ev0, ev1, ev2, ev3, Nat.zero_mul, Nat.zero_add]⟩, hbq1⟩⟩
              · have j70 : ¬ len ≤ 4 * k + 0 := fun hq9 => j70 ((nI_leI (a := len) (b := 4 * k + 0) (by omega) (by omega)).mpr hq9)
                refine xx_aload_n dX9_part_73 rfl ?_
                refine xx_get xx_c9 dX9_part_74 wf_X9_8 (j := 1) (by decide) hbq1 rfl ?_
                refine xx_bipush (v := 40) dX9_part_77 (by decide) ?_
                refine xx_iload dX9_part_79 rfl ?_
                refine xx_imul dX9_part_81 ?_
                refine xx_eqi (y := nI (40 * R9)) (pk_mul 40 R9) ?_
                refine xx_iload dX9_part_82 rfl ?_
                refine xx_iadd dX9_part_84 ?_
                refine xx_eqi (y := nI (40 * R9 + (4 * k + 0))) (nI_add (40 * R9) (4 * k + 0)) ?_
                refine xx_iald dX9_part_85 ((oq1 (b + 1) (by omega)).trans p1) (vp_in_nI (by omega) (by decide)) ?_
                refine xx_eqi (y := nI (yr_p (N R9).natAbs (4 * k + 0))) (by rw [nI_clamp (by omega)]; exact p5 _ (by omega)) ?_
                refine xx_goto (tgt := 90) dX9_part_86 (by decide) ?_
                have lt9 : yr_p (N R9).natAbs (4 * k + 0) < 65536 := Nat.mod_lt _ (by decide)
                refine xx_i2l dX9_part_90 ?_
                refine xx_eql (y := lN (yr_p (N R9).natAbs (4 * k + 0))) (nI_l (by omega)) ?_
                refine xx_lor dX9_part_91 ?_
                obtain ⟨vv0, ev0⟩ : ∃ v, v = vv1 * 65536 + yr_p (N R9).natAbs (4 * k + 0) := ⟨_, rfl⟩
                have lv0 : vv0 < 18446744073709551616 := by omega
                refine xx_eql (y := lN vv0) (by rw [wb_or (by omega) (by omega), yr_or lt9, ev0]) ?_
                refine xx_lstore_n dX9_part_92 (by decide) ?_
                refine xx_clv (lv2 := [(0, .ref b), (1, .int bl), (2, .int (nI k)), (3, .long (lN vv0)), (5, .int (nI R9)), (6, .int 0), (7, .int (nI (4 * k + 0)))]) rfl ?_
                refine xx_iinc (v := (-1)) dX9_part_93 rfl (by decide) (by decide) ?_
                refine xx_clv (lv2 := [(0, .ref b), (1, .int bl), (2, .int (nI k)), (3, .long (lN vv0)), (5, .int (nI R9)), (6, .int (-1)), (7, .int (nI (4 * k + 0)))]) rfl ?_
                refine xx_goto (tgt := 31) dX9_part_96 (by decide) ?_
                refine xx_iload dX9_part_31 rfl ?_
                refine xx_if_lt (tgt := 99) dX9_part_33 (by decide) (fun j33 => ?_) (fun h => absurd (by decide) h)
                refine xx_lload_n dX9_part_99 rfl ?_
                exact xx_lret dX9_part_100 rfl ⟨zq1, oq1, Or.inl ⟨⟨k, hk, rfl, by rw [← yr_4, ev0, ev1, ev2, ev3, Nat.zero_mul, Nat.zero_add]⟩, hbq1⟩⟩
          · have j70 : ¬ len ≤ 4 * k + 2 := fun hq9 => j70 ((nI_leI (a := len) (b := 4 * k + 2) (by omega) (by omega)).mpr hq9)
            refine xx_aload_n dX9_part_73 rfl ?_
            refine xx_get xx_c9 dX9_part_74 wf_X9_8 (j := 1) (by decide) hbq1 rfl ?_
            refine xx_bipush (v := 40) dX9_part_77 (by decide) ?_
            refine xx_iload dX9_part_79 rfl ?_
            refine xx_imul dX9_part_81 ?_
            refine xx_eqi (y := nI (40 * R9)) (pk_mul 40 R9) ?_
            refine xx_iload dX9_part_82 rfl ?_
            refine xx_iadd dX9_part_84 ?_
            refine xx_eqi (y := nI (40 * R9 + (4 * k + 2))) (nI_add (40 * R9) (4 * k + 2)) ?_
            refine xx_iald dX9_part_85 ((oq1 (b + 1) (by omega)).trans p1) (vp_in_nI (by omega) (by decide)) ?_
            refine xx_eqi (y := nI (yr_p (N R9).natAbs (4 * k + 2))) (by rw [nI_clamp (by omega)]; exact p5 _ (by omega)) ?_
            refine xx_goto (tgt := 90) dX9_part_86 (by decide) ?_
            have lt9 : yr_p (N R9).natAbs (4 * k + 2) < 65536 := Nat.mod_lt _ (by decide)
            refine xx_i2l dX9_part_90 ?_
            refine xx_eql (y := lN (yr_p (N R9).natAbs (4 * k + 2))) (nI_l (by omega)) ?_
            refine xx_lor dX9_part_91 ?_
            obtain ⟨vv2, ev2⟩ : ∃ v, v = vv3 * 65536 + yr_p (N R9).natAbs (4 * k + 2) := ⟨_, rfl⟩
            have lv2 : vv2 < 4294967296 := by omega
            refine xx_eql (y := lN vv2) (by rw [wb_or (by omega) (by omega), yr_or lt9, ev2]) ?_
            refine xx_lstore_n dX9_part_92 (by decide) ?_
            refine xx_clv (lv2 := [(0, .ref b), (1, .int bl), (2, .int (nI k)), (3, .long (lN vv2)), (5, .int (nI R9)), (6, .int 2), (7, .int (nI (4 * k + 2)))]) rfl ?_
            refine xx_iinc (v := 1) dX9_part_93 rfl (by decide) (by decide) ?_
            refine xx_clv (lv2 := [(0, .ref b), (1, .int bl), (2, .int (nI k)), (3, .long (lN vv2)), (5, .int (nI R9)), (6, .int 1), (7, .int (nI (4 * k + 2)))]) rfl ?_
            refine xx_goto (tgt := 31) dX9_part_96 (by decide) ?_
            refine xx_iload dX9_part_31 rfl ?_
            refine xx_if_lt (tgt := 99) dX9_part_33 (by decide) (fun h => absurd h (by decide)) (fun j33 => ?_)
            refine xx_aload_n dX9_part_36 rfl ?_
            refine xx_get xx_c9 dX9_part_37 wf_X9_84 (j := 0) (by decide) hbq1 rfl ?_
            refine xx_if_ne (tgt := 99) dX9_part_40 (by decide) (fun h => absurd rfl h) (fun j40 => ?_)
            refine xx_iload_n dX9_part_43 rfl ?_
            refine xx_bipush (v := 20) dX9_part_44 (by decide) ?_
            refine xx_icmp_ge (tgt := 99) dX9_part_46 (by decide) (fun h => absurd h (nI_ge (a := k) (b := 20) (by omega) (by omega))) (fun j46 => ?_)
            refine xx_iconst (v := 4) dX9_part_49 (by decide) ?_
            refine xx_iload_n dX9_part_50 rfl ?_
            refine xx_imul dX9_part_51 ?_
            refine xx_eqi (y := nI (4 * k)) (pk_mul 4 k) ?_
            refine xx_iload dX9_part_52 rfl ?_
            refine xx_iadd dX9_part_54 ?_
            refine xx_eqi (y := nI (4 * k + 1)) (nI_add (4 * k) 1) ?_
            refine xx_istore dX9_part_55 (by decide) ?_
            refine xx_clv (lv2 := [(0, .ref b), (1, .int bl), (2, .int (nI k)), (3, .long (lN vv2)), (5, .int (nI R9)), (6, .int 1), (7, .int (nI (4 * k + 1)))]) rfl ?_
            refine xx_lload_n dX9_part_57 rfl ?_
            refine xx_bipush (v := 16) dX9_part_58 (by decide) ?_
            refine xx_lshl dX9_part_60 ?_
            refine xx_eql (y := lN (vv2 * 65536)) (wb_shl _ (k := 16) (by decide)) ?_
            refine xx_iload dX9_part_61 rfl ?_
            refine xx_aload_n dX9_part_63 rfl ?_
            refine xx_get xx_c9 dX9_part_64 wf_X9_14 (j := 2) (by decide) hbq1 rfl ?_
            refine xx_iload dX9_part_67 rfl ?_
            refine xx_iald dX9_part_69 ((oq1 (b + 2) (by omega)).trans p2) (vp_in_nI (by omega) (by decide)) ?_
            refine xx_eqi (y := nI len) (by rw [nI_clamp (by omega)]; exact p3) ?_
            refine xx_icmp_ge (tgt := 89) dX9_part_70 (by decide) (fun j70 => ?_) (fun j70 => ?_)
            · have j70 : len ≤ 4 * k + 1 := (nI_leI (a := len) (b := 4 * k + 1) (by omega) (by omega)).mp j70
              refine xx_iconst (v := 0) dX9_part_89 (by decide) ?_
              have lt9 : yr_p (N R9).natAbs (4 * k + 1) < 65536 := Nat.mod_lt _ (by decide)
              refine xx_cst (st2 := [.int (nI (yr_p (N R9).natAbs (4 * k + 1))), .long (lN (vv2 * 65536))]) (by rw [p6 (4 * k + 1) (by omega)]; rfl) ?_
              refine xx_i2l dX9_part_90 ?_
              refine xx_eql (y := lN (yr_p (N R9).natAbs (4 * k + 1))) (nI_l (by omega)) ?_
              refine xx_lor dX9_part_91 ?_
              obtain ⟨vv1, ev1⟩ : ∃ v, v = vv2 * 65536 + yr_p (N R9).natAbs (4 * k + 1) := ⟨_, rfl⟩
              have lv1 : vv1 < 281474976710656 := by omega
              refine xx_eql (y := lN vv1) (by rw [wb_or (by omega) (by omega), yr_or lt9, ev1]) ?_
              refine xx_lstore_n dX9_part_92 (by decide) ?_
              refine xx_clv (lv2 := [(0, .ref b), (1, .int bl), (2, .int (nI k)), (3, .long (lN vv1)), (5, .int (nI R9)), (6, .int 1), (7, .int (nI (4 * k + 1)))]) rfl ?_
              refine xx_iinc (v := 0) dX9_part_93 rfl (by decide) (by decide) ?_
              refine xx_clv (lv2 := [(0, .ref b), (1, .int bl), (2, .int (nI k)), (3, .long (lN vv1)), (5, .int (nI R9)), (6, .int 0), (7, .int (nI (4 * k + 1)))]) rfl ?_
              refine xx_goto (tgt := 31) dX9_part_96 (by decide) ?_
              refine xx_iload dX9_part_31 rfl ?_
              refine xx_if_lt (tgt := 99) dX9_part_33 (by decide) (fun h => absurd h (by decide)) (fun j33 => ?_)
              refine xx_aload_n dX9_part_36 rfl ?_
              refine xx_get xx_c9 dX9_part_37 wf_X9_84 (j := 0) (by decide) hbq1 rfl ?_
              refine xx_if_ne (tgt := 99) dX9_part_40 (by decide) (fun h => absurd rfl h) (fun j40 => ?_)
              refine xx_iload_n dX9_part_43 rfl ?_
              refine xx_bipush (v := 20) dX9_part_44 (by decide) ?_
              refine xx_icmp_ge (tgt := 99) dX9_part_46 (by decide) (fun h => absurd h (nI_ge (a := k) (b := 20) (by omega) (by omega))) (fun j46 => ?_)
              refine xx_iconst (v := 4) dX9_part_49 (by decide) ?_
              refine xx_iload_n dX9_part_50 rfl ?_
              refine xx_imul dX9_part_51 ?_
              refine xx_eqi (y := nI (4 * k)) (pk_mul 4 k) ?_
              refine xx_iload dX9_part_52 rfl ?_
              refine xx_iadd dX9_part_54 ?_
              refine xx_eqi (y := nI (4 * k + 0)) (nI_add (4 * k) 0) ?_
              refine xx_istore dX9_part_55 (by decide) ?_
              refine xx_clv (lv2 := [(0, .ref b), (1, .int bl), (2, .int (nI k)), (3, .long (lN vv1)), (5, .int (nI R9)), (6, .int 0), (7, .int (nI (4 * k + 0)))]) rfl ?_
              refine xx_lload_n dX9_part_57 rfl ?_
              refine xx_bipush (v := 16) dX9_part_58 (by decide) ?_
              refine xx_lshl dX9_part_60 ?_
              refine xx_eql (y := lN (vv1 * 65536)) (wb_shl _ (k := 16) (by decide)) ?_
              refine xx_iload dX9_part_61 rfl ?_
              refine xx_aload_n dX9_part_63 rfl ?_
              refine xx_get xx_c9 dX9_part_64 wf_X9_14 (j := 2) (by decide) hbq1 rfl ?_
              refine xx_iload dX9_part_67 rfl ?_
              refine xx_iald dX9_part_69 ((oq1 (b + 2) (by omega)).trans p2) (vp_in_nI (by omega) (by decide)) ?_
              refine xx_eqi (y := nI len) (by rw [nI_clamp (by omega)]; exact p3) ?_
              refine xx_icmp_ge (tgt := 89) dX9_part_70 (by decide) (fun j70 => ?_) (fun j70 => ?_)
              · have j70 : len ≤ 4 * k + 0 := (nI_leI (a := len) (b := 4 * k + 0) (by omega) (by omega)).mp j70
                refine xx_iconst (v := 0) dX9_part_89 (by decide) ?_
                have lt9 : yr_p (N R9).natAbs (4 * k + 0) < 65536 := Nat.mod_lt _ (by decide)
                refine xx_cst (st2 := [.int (nI (yr_p (N R9).natAbs (4 * k + 0))), .long (lN (vv1 * 65536))]) (by rw [p6 (4 * k + 0) (by omega)]; rfl) ?_
                refine xx_i2l dX9_part_90 ?_
                refine xx_eql (y := lN (yr_p (N R9).natAbs (4 * k + 0))) (nI_l (by omega)) ?_
                refine xx_lor dX9_part_91 ?_
                obtain ⟨vv0, ev0⟩ : ∃ v, v = vv1 * 65536 + yr_p (N R9).natAbs (4 * k + 0) := ⟨_, rfl⟩
                have lv0 : vv0 < 18446744073709551616 := by omega
                refine xx_eql (y := lN vv0) (by rw [wb_or (by omega) (by omega), yr_or lt9, ev0]) ?_
                refine xx_lstore_n dX9_part_92 (by decide) ?_
                refine xx_clv (lv2 := [(0, .ref b), (1, .int bl), (2, .int (nI k)), (3, .long (lN vv0)), (5, .int (nI R9)), (6, .int 0), (7, .int (nI (4 * k + 0)))]) rfl ?_
                refine xx_iinc (v := (-1)) dX9_part_93 rfl (by decide) (by decide) ?_
                refine xx_clv (lv2 := [(0, .ref b), (1, .int bl), (2, .int (nI k)), (3, .long (lN vv0)), (5, .int (nI R9)), (6, .int (-1)), (7, .int (nI (4 * k + 0)))]) rfl ?_
                refine xx_goto (tgt := 31) dX9_part_96 (by decide) ?_
                refine xx_iload dX9_part_31 rfl ?_
                refine xx_if_lt (tgt := 99) dX9_part_33 (by decide) (fun j33 => ?_) (fun h => absurd (by decide) h)
                refine xx_lload_n dX9_part_99 rfl ?_
                exact xx_lret dX9_part_100 rfl ⟨zq1, oq1, Or.inl ⟨⟨k, hk, rfl, by rw [← yr_4, ev0, ev1, ev2, ev3, Nat.zero_mul, Nat.zero_add]⟩, hbq1⟩⟩
              · have j70 : ¬ len ≤ 4 * k + 0 := fun hq9 => j70 ((nI_leI (a := len) (b := 4 * k + 0) (by omega) (by omega)).mpr hq9)
                refine xx_aload_n dX9_part_73 rfl ?_
                refine xx_get xx_c9 dX9_part_74 wf_X9_8 (j := 1) (by decide) hbq1 rfl ?_
                refine xx_bipush (v := 40) dX9_part_77 (by decide) ?_
                refine xx_iload dX9_part_79 rfl ?_
                refine xx_imul dX9_part_81 ?_
                refine xx_eqi (y := nI (40 * R9)) (pk_mul 40 R9) ?_
                refine xx_iload dX9_part_82 rfl ?_
                refine xx_iadd dX9_part_84 ?_
                refine xx_eqi (y := nI (40 * R9 + (4 * k + 0))) (nI_add (40 * R9) (4 * k + 0)) ?_
                refine xx_iald dX9_part_85 ((oq1 (b + 1) (by omega)).trans p1) (vp_in_nI (by omega) (by decide)) ?_
                refine xx_eqi (y := nI (yr_p (N R9).natAbs (4 * k + 0))) (by rw [nI_clamp (by omega)]; exact p5 _ (by omega)) ?_
                refine xx_goto (tgt := 90) dX9_part_86 (by decide) ?_
                have lt9 : yr_p (N R9).natAbs (4 * k + 0) < 65536 := Nat.mod_lt _ (by decide)
                refine xx_i2l dX9_part_90 ?_
                refine xx_eql (y := lN (yr_p (N R9).natAbs (4 * k + 0))) (nI_l (by omega)) ?_
                refine xx_lor dX9_part_91 ?_
                obtain ⟨vv0, ev0⟩ : ∃ v, v = vv1 * 65536 + yr_p (N R9).natAbs (4 * k + 0) := ⟨_, rfl⟩
                have lv0 : vv0 < 18446744073709551616 := by omega
                refine xx_eql (y := lN vv0) (by rw [wb_or (by omega) (by omega), yr_or lt9, ev0]) ?_
                refine xx_lstore_n dX9_part_92 (by decide) ?_
                refine xx_clv (lv2 := [(0, .ref b), (1, .int bl), (2, .int (nI k)), (3, .long (lN vv0)), (5, .int (nI R9)), (6, .int 0), (7, .int (nI (4 * k + 0)))]) rfl ?_
                refine xx_iinc (v := (-1)) dX9_part_93 rfl (by decide) (by decide) ?_
                refine xx_clv (lv2 := [(0, .ref b), (1, .int bl), (2, .int (nI k)), (3, .long (lN vv0)), (5, .int (nI R9)), (6, .int (-1)), (7, .int (nI (4 * k + 0)))]) rfl ?_
                refine xx_goto (tgt := 31) dX9_part_96 (by decide) ?_
                refine xx_iload dX9_part_31 rfl ?_
                refine xx_if_lt (tgt := 99) dX9_part_33 (by decide) (fun j33 => ?_) (fun h => absurd (by decide) h)
                refine xx_lload_n dX9_part_99 rfl ?_
                exact xx_lret dX9_part_100 rfl ⟨zq1, oq1, Or.inl ⟨⟨k, hk, rfl, by rw [← yr_4, ev0, ev1, ev2, ev3, Nat.zero_mul, Nat.zero_add]⟩, hbq1⟩⟩
            · have j70 : ¬ len ≤ 4 * k + 1 := fun hq9 => j70 ((nI_leI (a := len) (b := 4 * k + 1) (by omega) (by omega)).mpr hq9)
              refine xx_aload_n dX9_part_73 rfl ?_
              refine xx_get xx_c9 dX9_part_74 wf_X9_8 (j := 1) (by decide) hbq1 rfl ?_
              refine xx_bipush (v := 40) dX9_part_77 (by decide) ?_
              refine xx_iload dX9_part_79 rfl ?_
              refine xx_imul dX9_part_81 ?_
              refine xx_eqi (y := nI (40 * R9)) (pk_mul 40 R9) ?_
              refine xx_iload dX9_part_82 rfl ?_
              refine xx_iadd dX9_part_84 ?_
              refine xx_eqi (y := nI (40 * R9 + (4 * k + 1))) (nI_add (40 * R9) (4 * k + 1)) ?_
              refine xx_iald dX9_part_85 ((oq1 (b + 1) (by omega)).trans p1) (vp_in_nI (by omega) (by decide)) ?_
              refine xx_eqi (y := nI (yr_p (N R9).natAbs (4 * k + 1))) (by rw [nI_clamp (by omega)]; exact p5 _ (by omega)) ?_
              refine xx_goto (tgt := 90) dX9_part_86 (by decide) ?_
              have lt9 : yr_p (N R9).natAbs (4 * k + 1) < 65536 := Nat.mod_lt _ (by decide)
              refine xx_i2l dX9_part_90 ?_
              refine xx_eql (y := lN (yr_p (N R9).natAbs (4 * k + 1))) (nI_l (by omega)) ?_
              refine xx_lor dX9_part_91 ?_
              obtain ⟨vv1, ev1⟩ : ∃ v, v = vv2 * 65536 + yr_p (N R9).natAbs (4 * k + 1) := ⟨_, rfl⟩
              have lv1 : vv1 < 281474976710656 := by omega
              refine xx_eql (y := lN vv1) (by rw [wb_or (by omega) (by omega), yr_or lt9, ev1]) ?_
              refine xx_lstore_n dX9_part_92 (by decide) ?_
              refine xx_clv (lv2 := [(0, .ref b), (1, .int bl), (2, .int (nI k)), (3, .long (lN vv1)), (5, .int (nI R9)), (6, .int 1), (7, .int (nI (4 * k + 1)))]) rfl ?_
              refine xx_iinc (v := 0) dX9_part_93 rfl (by decide) (by decide) ?_
              refine xx_clv (lv2 := [(0, .ref b), (1, .int bl), (2, .int (nI k)), (3, .long (lN vv1)), (5, .int (nI R9)), (6, .int 0), (7, .int (nI (4 * k + 1)))]) rfl ?_
              refine xx_goto (tgt := 31) dX9_part_96 (by decide) ?_
              refine xx_iload dX9_part_31 rfl ?_
              refine xx_if_lt (tgt := 99) dX9_part_33 (by decide) (fun h => absurd h (by decide)) (fun j33 => ?_)
              refine xx_aload_n dX9_part_36 rfl ?_
              refine xx_get xx_c9 dX9_part_37 wf_X9_84 (j := 0) (by decide) hbq1 rfl ?_
              refine xx_if_ne (tgt := 99) dX9_part_40 (by decide) (fun h => absurd rfl h) (fun j40 => ?_)
              refine xx_iload_n dX9_part_43 rfl ?_
              refine xx_bipush (v := 20) dX9_part_44 (by decide) ?_
              refine xx_icmp_ge (tgt := 99) dX9_part_46 (by decide) (fun h => absurd h (nI_ge (a := k) (b := 20) (by omega) (by omega))) (fun j46 => ?_)
              refine xx_iconst (v := 4) dX9_part_49 (by decide) ?_
              refine xx_iload_n dX9_part_50 rfl ?_
              refine xx_imul dX9_part_51 ?_
              refine xx_eqi (y := nI (4 * k)) (pk_mul 4 k) ?_
              refine xx_iload dX9_part_52 rfl ?_
              refine xx_iadd dX9_part_54 ?_
              refine xx_eqi (y := nI (4 * k + 0)) (nI_add (4 * k) 0) ?_
              refine xx_istore dX9_part_55 (by decide) ?_
              refine xx_clv (lv2 := [(0, .ref b), (1, .int bl), (2, .int (nI k)), (3, .long (lN vv1)), (5, .int (nI R9)), (6, .int 0), (7, .int (nI (4 * k + 0)))]) rfl ?_
              refine xx_lload_n dX9_part_57 rfl ?_
              refine xx_bipush (v := 16) dX9_part_58 (by decide) ?_
              refine xx_lshl dX9_part_60 ?_
              refine xx_eql (y := lN (vv1 * 65536)) (wb_shl _ (k := 16) (by decide)) ?_
              refine xx_iload dX9_part_61 rfl ?_
              refine xx_aload_n dX9_part_63 rfl ?_
              refine xx_get xx_c9 dX9_part_64 wf_X9_14 (j := 2) (by decide) hbq1 rfl ?_
              refine xx_iload dX9_part_67 rfl ?_
              refine xx_iald dX9_part_69 ((oq1 (b + 2) (by omega)).trans p2) (vp_in_nI (by omega) (by decide)) ?_
              refine xx_eqi (y := nI len) (by rw [nI_clamp (by omega)]; exact p3) ?_
              refine xx_icmp_ge (tgt := 89) dX9_part_70 (by decide) (fun j70 => ?_) (fun j70 => ?_)
              · have j70 : len ≤ 4 * k + 0 := (nI_leI (a := len) (b := 4 * k + 0) (by omega) (by omega)).mp j70
                refine xx_iconst (v := 0) dX9_part_89 (by decide) ?_
                have lt9 : yr_p (N R9).natAbs (4 * k + 0) < 65536 := Nat.mod_lt _ (by decide)
                refine xx_cst (st2 := [.int (nI (yr_p (N R9).natAbs (4 * k + 0))), .long (lN (vv1 * 65536))]) (by rw [p6 (4 * k + 0) (by omega)]; rfl) ?_
                refine xx_i2l dX9_part_90 ?_
                refine xx_eql (y := lN (yr_p (N R9).natAbs (4 * k + 0))) (nI_l (by omega)) ?_
                refine xx_lor dX9_part_91 ?_
                obtain ⟨vv0, ev0⟩ : ∃ v, v = vv1 * 65536 + yr_p (N R9).natAbs (4 * k + 0) := ⟨_, rfl⟩
                have lv0 : vv0 < 18446744073709551616 := by omega
                refine xx_eql (y := lN vv0) (by rw [wb_or (by omega) (by omega), yr_or lt9, ev0]) ?_
                refine xx_lstore_n dX9_part_92 (by decide) ?_
                refine xx_clv (lv2 := [(0, .ref b), (1, .int bl), (2, .int (nI k)), (3, .long (lN vv0)), (5, .int (nI R9)), (6, .int 0), (7, .int (nI (4 * k + 0)))]) rfl ?_
                refine xx_iinc (v := (-1)) dX9_part_93 rfl (by decide) (by decide) ?_
                refine xx_clv (lv2 := [(0, .ref b), (1, .int bl), (2, .int (nI k)), (3, .long (lN vv0)), (5, .int (nI R9)), (6, .int (-1)), (7, .int (nI (4 * k + 0)))]) rfl ?_
                refine xx_goto (tgt := 31) dX9_part_96 (by decide) ?_
                refine xx_iload dX9_part_31 rfl ?_
                refine xx_if_lt (tgt := 99) dX9_part_33 (by decide) (fun j33 => ?_) (fun h => absurd (by decide) h)
                refine xx_lload_n dX9_part_99 rfl ?_
                exact xx_lret dX9_part_100 rfl ⟨zq1, oq1, Or.inl ⟨⟨k, hk, rfl, by rw [← yr_4, ev0, ev1, ev2, ev3, Nat.zero_mul, Nat.zero_add]⟩, hbq1⟩⟩
              · have j70 : ¬ len ≤ 4 * k + 0 := fun hq9 => j70 ((nI_leI (a := len) (b := 4 * k + 0) (by omega) (by omega)).mpr hq9)
                refine xx_aload_n dX9_part_73 rfl ?_
                refine xx_get xx_c9 dX9_part_74 wf_X9_8 (j := 1) (by decide) hbq1 rfl ?_
                refine xx_bipush (v := 40) dX9_part_77 (by decide) ?_
                refine xx_iload dX9_part_79 rfl ?_
                refine xx_imul dX9_part_81 ?_
                refine xx_eqi (y := nI (40 * R9)) (pk_mul 40 R9) ?_
                refine xx_iload dX9_part_82 rfl ?_
                refine xx_iadd dX9_part_84 ?_
                refine xx_eqi (y := nI (40 * R9 + (4 * k + 0))) (nI_add (40 * R9) (4 * k + 0)) ?_
                refine xx_iald dX9_part_85 ((oq1 (b + 1) (by omega)).trans p1) (vp_in_nI (by omega) (by decide)) ?_
                refine xx_eqi (y := nI (yr_p (N R9).natAbs (4 * k + 0))) (by rw [nI_clamp (by omega)]; exact p5 _ (by omega)) ?_
                refine xx_goto (tgt := 90) dX9_part_86 (by decide) ?_
                have lt9 : yr_p (N R9).natAbs (4 * k + 0) < 65536 := Nat.mod_lt _ (by decide)
                refine xx_i2l dX9_part_90 ?_
                refine xx_eql (y := lN (yr_p (N R9).natAbs (4 * k + 0))) (nI_l (by omega)) ?_
                refine xx_lor dX9_part_91 ?_
                obtain ⟨vv0, ev0⟩ : ∃ v, v = vv1 * 65536 + yr_p (N R9).natAbs (4 * k + 0) := ⟨_, rfl⟩
                have lv0 : vv0 < 18446744073709551616 := by omega
                refine xx_eql (y := lN vv0) (by rw [wb_or (by omega) (by omega), yr_or lt9, ev0]) ?_
                refine xx_lstore_n dX9_part_92 (by decide) ?_
                refine xx_clv (lv2 := [(0, .ref b), (1, .int bl), (2, .int (nI k)), (3, .long (lN vv0)), (5, .int (nI R9)), (6, .int 0), (7, .int (nI (4 * k + 0)))]) rfl ?_
                refine xx_iinc (v := (-1)) dX9_part_93 rfl (by decide) (by decide) ?_
                refine xx_clv (lv2 := [(0, .ref b), (1, .int bl), (2, .int (nI k)), (3, .long (lN vv0)), (5, .int (nI R9)), (6, .int (-1)), (7, .int (nI (4 * k + 0)))]) rfl ?_
                refine xx_goto (tgt := 31) dX9_part_96 (by decide) ?_
                refine xx_iload dX9_part_31 rfl ?_
                refine xx_if_lt (tgt := 99) dX9_part_33 (by decide) (fun j33 => ?_) (fun h => absurd (by decide) h)
                refine xx_lload_n dX9_part_99 rfl ?_
                exact xx_lret dX9_part_100 rfl ⟨zq1, oq1, Or.inl ⟨⟨k, hk, rfl, by rw [← yr_4, ev0, ev1, ev2, ev3, Nat.zero_mul, Nat.zero_add]⟩, hbq1⟩⟩
        · have j70 : ¬ len ≤ 4 * k + 3 := fun hq9 => j70 ((nI_leI (a := len) (b := 4 * k + 3) (by omega) (by omega)).mpr hq9)
          refine xx_aload_n dX9_part_73 rfl ?_
          refine xx_get xx_c9 dX9_part_74 wf_X9_8 (j := 1) (by decide) hbq1 rfl ?_
          refine xx_bipush (v := 40) dX9_part_77 (by decide) ?_
          refine xx_iload dX9_part_79 rfl ?_
          refine xx_imul dX9_part_81 ?_
          refine xx_eqi (y := nI (40 * R9)) (pk_mul 40 R9) ?_
          refine xx_iload dX9_part_82 rfl ?_
          refine xx_iadd dX9_part_84 ?_
          refine xx_eqi (y := nI (40 * R9 + (4 * k + 3))) (nI_add (40 * R9) (4 * k + 3)) ?_
          refine xx_iald dX9_part_85 ((oq1 (b + 1) (by omega)).trans p1) (vp_in_nI (by omega) (by decide)) ?_
          refine xx_eqi (y := nI (yr_p (N R9).natAbs (4 * k + 3))) (by rw [nI_clamp (by omega)]; exact p5 _ (by omega)) ?_
          refine xx_goto (tgt := 90) dX9_part_86 (by decide) ?_
          have lt9 : yr_p (N R9).natAbs (4 * k + 3) < 65536 := Nat.mod_lt _ (by decide)
          refine xx_i2l dX9_part_90 ?_
          refine xx_eql (y := lN (yr_p (N R9).natAbs (4 * k + 3))) (nI_l (by omega)) ?_
          refine xx_lor dX9_part_91 ?_
          obtain ⟨vv3, ev3⟩ : ∃ v, v = 0 * 65536 + yr_p (N R9).natAbs (4 * k + 3) := ⟨_, rfl⟩
          have lv3 : vv3 < 65536 := by omega
          refine xx_eql (y := lN vv3) (by rw [wb_or (by decide) (by omega), yr_or lt9, ev3]) ?_
          refine xx_lstore_n dX9_part_92 (by decide) ?_
          refine xx_clv (lv2 := [(0, .ref b), (1, .int bl), (2, .int (nI k)), (3, .long (lN vv3)), (5, .int (nI R9)), (6, .int 3), (7, .int (nI (4 * k + 3)))]) rfl ?_
          refine xx_iinc (v := 2) dX9_part_93 rfl (by decide) (by decide) ?_
          refine xx_clv (lv2 := [(0, .ref b), (1, .int bl), (2, .int (nI k)), (3, .long (lN vv3)), (5, .int (nI R9)), (6, .int 2), (7, .int (nI (4 * k + 3)))]) rfl ?_
          refine xx_goto (tgt := 31) dX9_part_96 (by decide) ?_
          refine xx_iload dX9_part_31 rfl ?_
          refine xx_if_lt (tgt := 99) dX9_part_33 (by decide) (fun h => absurd h (by decide)) (fun j33 => ?_)
          refine xx_aload_n dX9_part_36 rfl ?_
          refine xx_get xx_c9 dX9_part_37 wf_X9_84 (j := 0) (by decide) hbq1 rfl ?_
          refine xx_if_ne (tgt := 99) dX9_part_40 (by decide) (fun h => absurd rfl h) (fun j40 => ?_)
          refine xx_iload_n dX9_part_43 rfl ?_
          refine xx_bipush (v := 20) dX9_part_44 (by decide) ?_
          refine xx_icmp_ge (tgt := 99) dX9_part_46 (by decide) (fun h => absurd h (nI_ge (a := k) (b := 20) (by omega) (by omega))) (fun j46 => ?_)
          refine xx_iconst (v := 4) dX9_part_49 (by decide) ?_
          refine xx_iload_n dX9_part_50 rfl ?_
          refine xx_imul dX9_part_51 ?_
          refine xx_eqi (y := nI (4 * k)) (pk_mul 4 k) ?_
          refine xx_iload dX9_part_52 rfl ?_
          refine xx_iadd dX9_part_54 ?_
          refine xx_eqi (y := nI (4 * k + 2)) (nI_add (4 * k) 2) ?_
          refine xx_istore dX9_part_55 (by decide) ?_
          refine xx_clv (lv2 := [(0, .ref b), (1, .int bl), (2, .int (nI k)), (3, .long (lN vv3)), (5, .int (nI R9)), (6, .int 2), (7, .int (nI (4 * k + 2)))]) rfl ?_
          refine xx_lload_n dX9_part_57 rfl ?_
          refine xx_bipush (v := 16) dX9_part_58 (by decide) ?_
          refine xx_lshl dX9_part_60 ?_
          refine xx_eql (y := lN (vv3 * 65536)) (wb_shl _ (k := 16) (by decide)) ?_
          refine xx_iload dX9_part_61 rfl ?_
          refine xx_aload_n dX9_part_63 rfl ?_
          refine xx_get xx_c9 dX9_part_64 wf_X9_14 (j := 2) (by decide) hbq1 rfl ?_
          refine xx_iload dX9_part_67 rfl ?_
          refine xx_iald dX9_part_69 ((oq1 (b + 2) (by omega)).trans p2) (vp_in_nI (by omega) (by decide)) ?_
          refine xx_eqi (y := nI len) (by rw [nI_clamp (by omega)]; exact p3) ?_
          refine xx_icmp_ge (tgt := 89) dX9_part_70 (by decide) (fun j70 => ?_) (fun j70 => ?_)
          · have j70 : len ≤ 4 * k + 2 := (nI_leI (a := len) (b := 4 * k + 2) (by omega) (by omega)).mp j70
            refine xx_iconst (v := 0) dX9_part_89 (by decide) ?_
            have lt9 : yr_p (N R9).natAbs (4 * k + 2) < 65536 := Nat.mod_lt _ (by decide)
            refine xx_cst (st2 := [.int (nI (yr_p (N R9).natAbs (4 * k + 2))), .long (lN (vv3 * 65536))]) (by rw [p6 (4 * k + 2) (by omega)]; rfl) ?_
            refine xx_i2l dX9_part_90 ?_
            refine xx_eql (y := lN (yr_p (N R9).natAbs (4 * k + 2))) (nI_l (by omega)) ?_
            refine xx_lor dX9_part_91 ?_
            obtain ⟨vv2, ev2⟩ : ∃ v, v = vv3 * 65536 + yr_p (N R9).natAbs (4 * k + 2) := ⟨_, rfl⟩
            have lv2 : vv2 < 4294967296 := by omega
            refine xx_eql (y := lN vv2) (by rw [wb_or (by omega) (by omega), yr_or lt9, ev2]) ?_
            refine xx_lstore_n dX9_part_92 (by decide) ?_
            refine xx_clv (lv2 := [(0, .ref b), (1, .int bl), (2, .int (nI k)), (3, .long (lN vv2)), (5, .int (nI R9)), (6, .int 2), (7, .int (nI (4 * k + 2)))]) rfl ?_
            refine xx_iinc (v := 1) dX9_part_93 rfl (by decide) (by decide) ?_
            refine xx_clv (lv2 := [(0, .ref b), (1, .int bl), (2, .int (nI k)), (3, .long (lN vv2)), (5, .int (nI R9)), (6, .int 1), (7, .int (nI (4 * k + 2)))]) rfl ?_
            refine xx_goto (tgt := 31) dX9_part_96 (by decide) ?_
            refine xx_iload dX9_part_31 rfl ?_
            refine xx_if_lt (tgt := 99) dX9_part_33 (by decide) (fun h => absurd h (by decide)) (fun j33 => ?_)
            refine xx_aload_n dX9_part_36 rfl ?_
            refine xx_get xx_c9 dX9_part_37 wf_X9_84 (j := 0) (by decide) hbq1 rfl ?_
            refine xx_if_ne (tgt := 99) dX9_part_40 (by decide) (fun h => absurd rfl h) (fun j40 => ?_)
            refine xx_iload_n dX9_part_43 rfl ?_
            refine xx_bipush (v := 20) dX9_part_44 (by decide) ?_
            refine xx_icmp_ge (tgt := 99) dX9_part_46 (by decide) (fun h => absurd h (nI_ge (a := k) (b := 20) (by omega) (by omega))) (fun j46 => ?_)
            refine xx_iconst (v := 4) dX9_part_49 (by decide) ?_
            refine xx_iload_n dX9_part_50 rfl ?_
            refine xx_imul dX9_part_51 ?_
            refine xx_eqi (y := nI (4 * k)) (pk_mul 4 k) ?_
            refine xx_iload dX9_part_52 rfl ?_
            refine xx_iadd dX9_part_54 ?_
            refine xx_eqi (y := nI (4 * k + 1)) (nI_add (4 * k) 1) ?_
            refine xx_istore dX9_part_55 (by decide) ?_
            refine xx_clv (lv2 := [(0, .ref b), (1, .int bl), (2, .int (nI k)), (3, .long (lN vv2)), (5, .int (nI R9)), (6, .int 1), (7, .int (nI (4 * k + 1)))]) rfl ?_
            refine xx_lload_n dX9_part_57 rfl ?_
            refine xx_bipush (v := 16) dX9_part_58 (by decide) ?_
            refine xx_lshl dX9_part_60 ?_
            refine xx_eql (y := lN (vv2 * 65536)) (wb_shl _ (k := 16) (by decide)) ?_
            refine xx_iload dX9_part_61 rfl ?_
            refine xx_aload_n dX9_part_63 rfl ?_
            refine xx_get xx_c9 dX9_part_64 wf_X9_14 (j := 2) (by decide) hbq1 rfl ?_
            refine xx_iload dX9_part_67 rfl ?_
            refine xx_iald dX9_part_69 ((oq1 (b + 2) (by omega)).trans p2) (vp_in_nI (by omega) (by decide)) ?_
            refine xx_eqi (y := nI len) (by rw [nI_clamp (by omega)]; exact p3) ?_
            refine xx_icmp_ge (tgt := 89) dX9_part_70 (by decide) (fun j70 => ?_) (fun j70 => ?_)
            · have j70 : len ≤ 4 * k + 1 := (nI_leI (a := len) (b := 4 * k + 1) (by omega) (by omega)).mp j70
              refine xx_iconst (v := 0) dX9_part_89 (by decide) ?_
              have lt9 : yr_p (N R9).natAbs (4 * k + 1) < 65536 := Nat.mod_lt _ (by decide)
              refine xx_cst (st2 := [.int (nI (yr_p (N R9).natAbs (4 * k + 1))), .long (lN (vv2 * 65536))]) (by rw [p6 (4 * k + 1) (by omega)]; rfl) ?_
              refine xx_i2l dX9_part_90 ?_
              refine xx_eql (y := lN (yr_p (N R9).natAbs (4 * k + 1))) (nI_l (by omega)) ?_
              refine xx_lor dX9_part_91 ?_
              obtain ⟨vv1, ev1⟩ : ∃ v, v = vv2 * 65536 + yr_p (N R9).natAbs (4 * k + 1) := ⟨_, rfl⟩
              have lv1 : vv1 < 281474976710656 := by omega
              refine xx_eql (y := lN vv1) (by rw [wb_or (by omega) (by omega), yr_or lt9, ev1]) ?_
              refine xx_lstore_n dX9_part_92 (by decide) ?_
              refine xx_clv (lv2 := [(0, .ref b), (1, .int bl), (2, .int (nI k)), (3, .long (lN vv1)), (5, .int (nI R9)), (6, .int 1), (7, .int (nI (4 * k + 1)))]) rfl ?_
              refine xx_iinc (v := 0) dX9_part_93 rfl (by decide) (by decide) ?_
              refine xx_clv (lv2 := [(0, .ref b), (1, .int bl), (2, .int (nI k)), (3, .long (lN vv1)), (5, .int (nI R9)), (6, .int 0), (7, .int (nI (4 * k + 1)))]) rfl ?_
              refine xx_goto (tgt := 31) dX9_part_96 (by decide) ?_
              refine xx_iload dX9_part_31 rfl ?_
              refine xx_if_lt (tgt := 99) dX9_part_33 (by decide) (fun h => absurd h (by decide)) (fun j33 => ?_)
              refine xx_aload_n dX9_part_36 rfl ?_
              refine xx_get xx_c9 dX9_part_37 wf_X9_84 (j := 0) (by decide) hbq1 rfl ?_
              refine xx_if_ne (tgt := 99) dX9_part_40 (by decide) (fun h => absurd rfl h) (fun j40 => ?_)
              refine xx_iload_n dX9_part_43 rfl ?_
              refine xx_bipush (v := 20) dX9_part_44 (by decide) ?_
              refine xx_icmp_ge (tgt := 99) dX9_part_46 (by decide) (fun h => absurd h (nI_ge (a := k) (b := 20) (by omega) (by omega))) (fun j46 => ?_)
              refine xx_iconst (v := 4) dX9_part_49 (by decide) ?_
              refine xx_iload_n dX9_part_50 rfl ?_
              refine xx_imul dX9_part_51 ?_
              refine xx_eqi (y := nI (4 * k)) (pk_mul 4 k) ?_
              refine xx_iload dX9_part_52 rfl ?_
              refine xx_iadd dX9_part_54 ?_
              refine xx_eqi (y := nI (4 * k + 0)) (nI_add (4 * k) 0) ?_
              refine xx_istore dX9_part_55 (by decide) ?_
              refine xx_clv (lv2 := [(0, .ref b), (1, .int bl), (2, .int (nI k)), (3, .long (lN vv1)), (5, .int (nI R9)), (6, .int 0), (7, .int (nI (4 * k + 0)))]) rfl ?_
              refine xx_lload_n dX9_part_57 rfl ?_
              refine xx_bipush (v := 16) dX9_part_58 (by decide) ?_
              refine xx_lshl dX9_part_60 ?_
              refine xx_eql (y := lN (vv1 * 65536)) (wb_shl _ (k := 16) (by decide)) ?_
              refine xx_iload dX9_part_61 rfl ?_
              refine xx_aload_n dX9_part_63 rfl ?_
              refine xx_get xx_c9 dX9_part_64 wf_X9_14 (j := 2) (by decide) hbq1 rfl ?_
              refine xx_iload dX9_part_67 rfl ?_
              refine xx_iald dX9_part_69 ((oq1 (b + 2) (by omega)).trans p2) (vp_in_nI (by omega) (by decide)) ?_
              refine xx_eqi (y := nI len) (by rw [nI_clamp (by omega)]; exact p3) ?_
              refine xx_icmp_ge (tgt := 89) dX9_part_70 (by decide) (fun j70 => ?_) (fun j70 => ?_)
              · have j70 : len ≤ 4 * k + 0 := (nI_leI (a := len) (b := 4 * k + 0) (by omega) (by omega)).mp j70
                refine xx_iconst (v := 0) dX9_part_89 (by decide) ?_
                have lt9 : yr_p (N R9).natAbs (4 * k + 0) < 65536 := Nat.mod_lt _ (by decide)
                refine xx_cst (st2 := [.int (nI (yr_p (N R9).natAbs (4 * k + 0))), .long (lN (vv1 * 65536))]) (by rw [p6 (4 * k + 0) (by omega)]; rfl) ?_
                refine xx_i2l dX9_part_90 ?_
                refine xx_eql (y := lN (yr_p (N R9).natAbs (4 * k + 0))) (nI_l (by omega)) ?_
                refine xx_lor dX9_part_91 ?_
                obtain ⟨vv0, ev0⟩ : ∃ v, v = vv1 * 65536 + yr_p (N R9).natAbs (4 * k + 0) := ⟨_, rfl⟩
                have lv0 : vv0 < 18446744073709551616 := by omega
                refine xx_eql (y := lN vv0) (by rw [wb_or (by omega) (by omega), yr_or lt9, ev0]) ?_
                refine xx_lstore_n dX9_part_92 (by decide) ?_
                refine xx_clv (lv2 := [(0, .ref b), (1, .int bl), (2, .int (nI k)), (3, .long (lN vv0)), (5, .int (nI R9)), (6, .int 0), (7, .int (nI (4 * k + 0)))]) rfl ?_
                refine xx_iinc (v := (-1)) dX9_part_93 rfl (by decide) (by decide) ?_
                refine xx_clv (lv2 := [(0, .ref b), (1, .int bl), (2, .int (nI k)), (3, .long (lN vv0)), (5, .int (nI R9)), (6, .int (-1)), (7, .int (nI (4 * k + 0)))]) rfl ?_
                refine xx_goto (tgt := 31) dX9_part_96 (by decide) ?_
                refine xx_iload dX9_part_31 rfl ?_
                refine xx_if_lt (tgt := 99) dX9_part_33 (by decide) (fun j33 => ?_) (fun h => absurd (by decide) h)
                refine xx_lload_n dX9_part_99 rfl ?_
                exact xx_lret dX9_part_100 rfl ⟨zq1, oq1, Or.inl ⟨⟨k, hk, rfl, by rw [← yr_4, ev0, ev1, ev2, ev3, Nat.zero_mul, Nat.zero_add]⟩, hbq1⟩⟩
              · have j70 : ¬ len ≤ 4 * k + 0 := fun hq9 => j70 ((nI_leI (a := len) (b := 4 * k + 0) (by omega) (by omega)).mpr hq9)
                refine xx_aload_n dX9_part_73 rfl ?_
                refine xx_get xx_c9 dX9_part_74 wf_X9_8 (j := 1) (by decide) hbq1 rfl ?_
                refine xx_bipush (v := 40) dX9_part_77 (by decide) ?_
                refine xx_iload dX9_part_79 rfl ?_
                refine xx_imul dX9_part_81 ?_
                refine xx_eqi (y := nI (40 * R9)) (pk_mul 40 R9) ?_
                refine xx_iload dX9_part_82 rfl ?_
                refine xx_iadd dX9_part_84 ?_
                refine xx_eqi (y := nI (40 * R9 + (4 * k + 0))) (nI_add (40 * R9) (4 * k + 0)) ?_
                refine xx_iald dX9_part_85 ((oq1 (b + 1) (by omega)).trans p1) (vp_in_nI (by omega) (by decide)) ?_
                refine xx_eqi (y := nI (yr_p (N R9).natAbs (4 * k + 0))) (by rw [nI_clamp (by omega)]; exact p5 _ (by omega)) ?_
                refine xx_goto (tgt := 90) dX9_part_86 (by decide) ?_
                have lt9 : yr_p (N R9).natAbs (4 * k + 0) < 65536 := Nat.mod_lt _ (by decide)
                refine xx_i2l dX9_part_90 ?_
                refine xx_eql (y := lN (yr_p (N R9).natAbs (4 * k + 0))) (nI_l (by omega)) ?_
                refine xx_lor dX9_part_91 ?_
                obtain ⟨vv0, ev0⟩ : ∃ v, v = vv1 * 65536 + yr_p (N R9).natAbs (4 * k + 0) := ⟨_, rfl⟩
                have lv0 : vv0 < 18446744073709551616 := by omega
                refine xx_eql (y := lN vv0) (by rw [wb_or (by omega) (by omega), yr_or lt9, ev0]) ?_
                refine xx_lstore_n dX9_part_92 (by decide) ?_
                refine xx_clv (lv2 := [(0, .ref b), (1, .int bl), (2, .int (nI k)), (3, .long (lN vv0)), (5, .int (nI R9)), (6, .int 0), (7, .int (nI (4 * k + 0)))]) rfl ?_
                refine xx_iinc (v := (-1)) dX9_part_93 rfl (by decide) (by decide) ?_
                refine xx_clv (lv2 := [(0, .ref b), (1, .int bl), (2, .int (nI k)), (3, .long (lN vv0)), (5, .int (nI R9)), (6, .int (-1)), (7, .int (nI (4 * k + 0)))]) rfl ?_
                refine xx_goto (tgt := 31) dX9_part_96 (by decide) ?_
                refine xx_iload dX9_part_31 rfl ?_
                refine xx_if_lt (tgt := 99) dX9_part_33 (by decide) (fun j33 => ?_) (fun h => absurd (by decide) h)
                refine xx_lload_n dX9_part_99 rfl ?_
                exact xx_lret dX9_part_100 rfl ⟨zq1, oq1, Or.inl ⟨⟨k, hk, rfl, by rw [← yr_4, ev0, ev1, ev2, ev3, Nat.zero_mul, Nat.zero_add]⟩, hbq1⟩⟩
            · have j70 : ¬ len ≤ 4 * k + 1 := fun hq9 => j70 ((nI_leI (a := len) (b := 4 * k + 1) (by omega) (by omega)).mpr hq9)
              refine xx_aload_n dX9_part_73 rfl ?_
              refine xx_get xx_c9 dX9_part_74 wf_X9_8 (j := 1) (by decide) hbq1 rfl ?_
              refine xx_bipush (v := 40) dX9_part_77 (by decide) ?_
              refine xx_iload dX9_part_79 rfl ?_
              refine xx_imul dX9_part_81 ?_
              refine xx_eqi (y := nI (40 * R9)) (pk_mul 40 R9) ?_
              refine xx_iload dX9_part_82 rfl ?_
              refine xx_iadd dX9_part_84 ?_
              refine xx_eqi (y := nI (40 * R9 + (4 * k + 1))) (nI_add (40 * R9) (4 * k + 1)) ?_
              refine xx_iald dX9_part_85 ((oq1 (b + 1) (by omega)).trans p1) (vp_in_nI (by omega) (by decide)) ?_
              refine xx_eqi (y := nI (yr_p (N R9).natAbs (4 * k + 1))) (by rw [nI_clamp (by omega)]; exact p5 _ (by omega)) ?_
              refine xx_goto (tgt := 90) dX9_part_86 (by decide) ?_
              have lt9 : yr_p (N R9).natAbs (4 * k + 1) < 65536 := Nat.mod_lt _ (by decide)
              refine xx_i2l dX9_part_90 ?_
              refine xx_eql (y := lN (yr_p (N R9).natAbs (4 * k + 1))) (nI_l (by omega)) ?_
              refine xx_lor dX9_part_91 ?_
              obtain ⟨vv1, ev1⟩ : ∃ v, v = vv2 * 65536 + yr_p (N R9).natAbs (4 * k + 1) := ⟨_, rfl⟩
              have lv1 : vv1 < 281474976710656 := by omega
              refine xx_eql (y := lN vv1) (by rw [wb_or (by omega) (by omega), yr_or lt9, ev1]) ?_
              refine xx_lstore_n dX9_part_92 (by decide) ?_
              refine xx_clv (lv2 := [(0, .ref b), (1, .int bl), (2, .int (nI k)), (3, .long (lN vv1)), (5, .int (nI R9)), (6, .int 1), (7, .int (nI (4 * k + 1)))]) rfl ?_
              refine xx_iinc (v := 0) dX9_part_93 rfl (by decide) (by decide) ?_
              refine xx_clv (lv2 := [(0, .ref b), (1, .int bl), (2, .int (nI k)), (3, .long (lN vv1)), (5, .int (nI R9)), (6, .int 0), (7, .int (nI (4 * k + 1)))]) rfl ?_
              refine xx_goto (tgt := 31) dX9_part_96 (by decide) ?_
              refine xx_iload dX9_part_31 rfl ?_
              refine xx_if_lt (tgt := 99) dX9_part_33 (by decide) (fun h => absurd h (by decide)) (fun j33 => ?_)
              refine xx_aload_n dX9_part_36 rfl ?_
              refine xx_get xx_c9 dX9_part_37 wf_X9_84 (j := 0) (by decide) hbq1 rfl ?_
              refine xx_if_ne (tgt := 99) dX9_part_40 (by decide) (fun h => absurd rfl h) (fun j40 => ?_)
              refine xx_iload_n dX9_part_43 rfl ?_
              refine xx_bipush (v := 20) dX9_part_44 (by decide) ?_
              refine xx_icmp_ge (tgt := 99) dX9_part_46 (by decide) (fun h => absurd h (nI_ge (a := k) (b := 20) (by omega) (by omega))) (fun j46 => ?_)
              refine xx_iconst (v := 4) dX9_part_49 (by decide) ?_
              refine xx_iload_n dX9_part_50 rfl ?_
              refine xx_imul dX9_part_51 ?_
              refine xx_eqi (y := nI (4 * k)) (pk_mul 4 k) ?_
              refine xx_iload dX9_part_52 rfl ?_
              refine xx_iadd dX9_part_54 ?_
              refine xx_eqi (y := nI (4 * k + 0)) (nI_add (4 * k) 0) ?_
              refine xx_istore dX9_part_55 (by decide) ?_
              refine xx_clv (lv2 := [(0, .ref b), (1, .int bl), (2, .int (nI k)), (3, .long (lN vv1)), (5, .int (nI R9)), (6, .int 0), (7, .int (nI (4 * k + 0)))]) rfl ?_
              refine xx_lload_n dX9_part_57 rfl ?_
              refine xx_bipush (v := 16) dX9_part_58 (by decide) ?_
              refine xx_lshl dX9_part_60 ?_
              refine xx_eql (y := lN (vv1 * 65536)) (wb_shl _ (k := 16) (by decide)) ?_
              refine xx_iload dX9_part_61 rfl ?_
              refine xx_aload_n dX9_part_63 rfl ?_
              refine xx_get xx_c9 dX9_part_64 wf_X9_14 (j := 2) (by decide) hbq1 rfl ?_
              refine xx_iload dX9_part_67 rfl ?_
              refine xx_iald dX9_part_69 ((oq1 (b + 2) (by omega)).trans p2) (vp_in_nI (by omega) (by decide)) ?_
              refine xx_eqi (y := nI len) (by rw [nI_clamp (by omega)]; exact p3) ?_
              refine xx_icmp_ge (tgt := 89) dX9_part_70 (by decide) (fun j70 => ?_) (fun j70 => ?_)
              · have j70 : len ≤ 4 * k + 0 := (nI_leI (a := len) (b := 4 * k + 0) (by omega) (by omega)).mp j70
                refine xx_iconst (v := 0) dX9_part_89 (by decide) ?_
                have lt9 : yr_p (N R9).natAbs (4 * k + 0) < 65536 := Nat.mod_lt _ (by decide)
                refine xx_cst (st2 := [.int (nI (yr_p (N R9).natAbs (4 * k + 0))), .long (lN (vv1 * 65536))]) (by rw [p6 (4 * k + 0) (by omega)]; rfl) ?_
                refine xx_i2l dX9_part_90 ?_
                refine xx_eql (y := lN (yr_p (N R9).natAbs (4 * k + 0))) (nI_l (by omega)) ?_
                refine xx_lor dX9_part_91 ?_
                obtain ⟨vv0, ev0⟩ : ∃ v, v = vv1 * 65536 + yr_p (N R9).natAbs (4 * k + 0) := ⟨_, rfl⟩
                have lv0 : vv0 < 18446744073709551616 := by omega
                refine xx_eql (y := lN vv0) (by rw [wb_or (by omega) (by omega), yr_or lt9, ev0]) ?_
                refine xx_lstore_n dX9_part_92 (by decide) ?_
                refine xx_clv (lv2 := [(0, .ref b), (1, .int bl), (2, .int (nI k)), (3, .long (lN vv0)), (5, .int (nI R9)), (6, .int 0), (7, .int (nI (4 * k + 0)))]) rfl ?_
                refine xx_iinc (v := (-1)) dX9_part_93 rfl (by decide) (by decide) ?_
                refine xx_clv (lv2 := [(0, .ref b), (1, .int bl), (2, .int (nI k)), (3, .long (lN vv0)), (5, .int (nI R9)), (6, .int (-1)), (7, .int (nI (4 * k + 0)))]) rfl ?_
                refine xx_goto (tgt := 31) dX9_part_96 (by decide) ?_
                refine xx_iload dX9_part_31 rfl ?_
                refine xx_if_lt (tgt := 99) dX9_part_33 (by decide) (fun j33 => ?_) (fun h => absurd (by decide) h)
                refine xx_lload_n dX9_part_99 rfl ?_
                exact xx_lret dX9_part_100 rfl ⟨zq1, oq1, Or.inl ⟨⟨k, hk, rfl, by rw [← yr_4, ev0, ev1, ev2, ev3, Nat.zero_mul, Nat.zero_add]⟩, hbq1⟩⟩
              · have j70 : ¬ len ≤ 4 * k + 0 := fun hq9 => j70 ((nI_leI (a := len) (b := 4 * k + 0) (by omega) (by omega)).mpr hq9)
                refine xx_aload_n dX9_part_73 rfl ?_
                refine xx_get xx_c9 dX9_part_74 wf_X9_8 (j := 1) (by decide) hbq1 rfl ?_
                refine xx_bipush (v := 40) dX9_part_77 (by decide) ?_
                refine xx_iload dX9_part_79 rfl ?_
                refine xx_imul dX9_part_81 ?_
                refine xx_eqi (y := nI (40 * R9)) (pk_mul 40 R9) ?_
                refine xx_iload dX9_part_82 rfl ?_
                refine xx_iadd dX9_part_84 ?_
                refine xx_eqi (y := nI (40 * R9 + (4 * k + 0))) (nI_add (40 * R9) (4 * k + 0)) ?_
                refine xx_iald dX9_part_85 ((oq1 (b + 1) (by omega)).trans p1) (vp_in_nI (by omega) (by decide)) ?_
                refine xx_eqi (y := nI (yr_p (N R9).natAbs (4 * k + 0))) (by rw [nI_clamp (by omega)]; exact p5 _ (by omega)) ?_
                refine xx_goto (tgt := 90) dX9_part_86 (by decide) ?_
                have lt9 : yr_p (N R9).natAbs (4 * k + 0) < 65536 := Nat.mod_lt _ (by decide)
                refine xx_i2l dX9_part_90 ?_
                refine xx_eql (y := lN (yr_p (N R9).natAbs (4 * k + 0))) (nI_l (by omega)) ?_
                refine xx_lor dX9_part_91 ?_
                obtain ⟨vv0, ev0⟩ : ∃ v, v = vv1 * 65536 + yr_p (N R9).natAbs (4 * k + 0) := ⟨_, rfl⟩
                have lv0 : vv0 < 18446744073709551616 := by omega
                refine xx_eql (y := lN vv0) (by rw [wb_or (by omega) (by omega), yr_or lt9, ev0]) ?_
                refine xx_lstore_n dX9_part_92 (by decide) ?_
                refine xx_clv (lv2 := [(0, .ref b), (1, .int bl), (2, .int (nI k)), (3, .long (lN vv0)), (5, .int (nI R9)), (6, .int 0), (7, .int (nI (4 * k + 0)))]) rfl ?_
                refine xx_iinc (v := (-1)) dX9_part_93 rfl (by decide) (by decide) ?_
                refine xx_clv (lv2 := [(0, .ref b), (1, .int bl), (2, .int (nI k)), (3, .long (lN vv0)), (5, .int (nI R9)), (6, .int (-1)), (7, .int (nI (4 * k + 0)))]) rfl ?_
                refine xx_goto (tgt := 31) dX9_part_96 (by decide) ?_
                refine xx_iload dX9_part_31 rfl ?_
                refine xx_if_lt (tgt := 99) dX9_part_33 (by decide) (fun j33 => ?_) (fun h => absurd (by decide) h)
                refine xx_lload_n dX9_part_99 rfl ?_
                exact xx_lret dX9_part_100 rfl ⟨zq1, oq1, Or.inl ⟨⟨k, hk, rfl, by rw [← yr_4, ev0, ev1, ev2, ev3, Nat.zero_mul, Nat.zero_add]⟩, hbq1⟩⟩
          · have j70 : ¬ len ≤ 4 * k + 2 := fun hq9 => j70 ((nI_leI (a := len) (b := 4 * k + 2) (by omega) (by omega)).mpr hq9)
            refine xx_aload_n dX9_part_73 rfl ?_
            refine xx_get xx_c9 dX9_part_74 wf_X9_8 (j := 1) (by decide) hbq1 rfl ?_
            refine xx_bipush (v := 40) dX9_part_77 (by decide) ?_
            refine xx_iload dX9_part_79 rfl ?_
            refine xx_imul dX9_part_81 ?_
            refine xx_eqi (y := nI (40 * R9)) (pk_mul 40 R9) ?_
            refine xx_iload dX9_part_82 rfl ?_
            refine xx_iadd dX9_part_84 ?_
            refine xx_eqi (y := nI (40 * R9 + (4 * k + 2))) (nI_add (40 * R9) (4 * k + 2)) ?_
            refine xx_iald dX9_part_85 ((oq1 (b + 1) (by omega)).trans p1) (vp_in_nI (by omega) (by decide)) ?_
            refine xx_eqi (y := nI (yr_p (N R9).natAbs (4 * k + 2))) (by rw [nI_clamp (by omega)]; exact p5 _ (by omega)) ?_
            refine xx_goto (tgt := 90) dX9_part_86 (by decide) ?_
            have lt9 : yr_p (N R9).natAbs (4 * k + 2) < 65536 := Nat.mod_lt _ (by decide)
            refine xx_i2l dX9_part_90 ?_
            refine xx_eql (y := lN (yr_p (N R9).natAbs (4 * k + 2))) (nI_l (by omega)) ?_
            refine xx_lor dX9_part_91 ?_
            obtain ⟨vv2, ev2⟩ : ∃ v, v = vv3 * 65536 + yr_p (N R9).natAbs (4 * k + 2) := ⟨_, rfl⟩
            have lv2 : vv2 < 4294967296 := by omega
            refine xx_eql (y := lN vv2) (by rw [wb_or (by omega) (by omega), yr_or lt9, ev2]) ?_
            refine xx_lstore_n dX9_part_92 (by decide) ?_
            refine xx_clv (lv2 := [(0, .ref b), (1, .int bl), (2, .int (nI k)), (3, .long (lN vv2)), (5, .int (nI R9)), (6, .int 2), (7, .int (nI (4 * k + 2)))]) rfl ?_
            refine xx_iinc (v := 1) dX9_part_93 rfl (by decide) (by decide) ?_
            refine xx_clv (lv2 := [(0, .ref b), (1, .int bl), (2, .int (nI k)), (3, .long (lN vv2)), (5, .int (nI R9)), (6, .int 1), (7, .int (nI (4 * k + 2)))]) rfl ?_
            refine xx_goto (tgt := 31) dX9_part_96 (by decide) ?_
            refine xx_iload dX9_part_31 rfl ?_
            refine xx_if_lt (tgt := 99) dX9_part_33 (by decide) (fun h => absurd h (by decide)) (fun j33 => ?_)
            refine xx_aload_n dX9_part_36 rfl ?_
            refine xx_get xx_c9 dX9_part_37 wf_X9_84 (j := 0) (by decide) hbq1 rfl ?_
            refine xx_if_ne (tgt := 99) dX9_part_40 (by decide) (fun h => absurd rfl h) (fun j40 => ?_)
            refine xx_iload_n dX9_part_43 rfl ?_
            refine xx_bipush (v := 20) dX9_part_44 (by decide) ?_
            refine xx_icmp_ge (tgt := 99) dX9_part_46 (by decide) (fun h => absurd h (nI_ge (a := k) (b := 20) (by omega) (by omega))) (fun j46 => ?_)
            refine xx_iconst (v := 4) dX9_part_49 (by decide) ?_
            refine xx_iload_n dX9_part_50 rfl ?_
            refine xx_imul dX9_part_51 ?_
            refine xx_eqi (y := nI (4 * k)) (pk_mul 4 k) ?_
            refine xx_iload dX9_part_52 rfl ?_
            refine xx_iadd dX9_part_54 ?_
            refine xx_eqi (y := nI (4 * k + 1)) (nI_add (4 * k) 1) ?_
            refine xx_istore dX9_part_55 (by decide) ?_
            refine xx_clv (lv2 := [(0, .ref b), (1, .int bl), (2, .int (nI k)), (3, .long (lN vv2)), (5, .int (nI R9)), (6, .int 1), (7, .int (nI (4 * k + 1)))]) rfl ?_
            refine xx_lload_n dX9_part_57 rfl ?_
            refine xx_bipush (v := 16) dX9_part_58 (by decide) ?_
            refine xx_lshl dX9_part_60 ?_
            refine xx_eql (y := lN (vv2 * 65536)) (wb_shl _ (k := 16) (by decide)) ?_
            refine xx_iload dX9_part_61 rfl ?_
            refine xx_aload_n dX9_part_63 rfl ?_
            refine xx_get xx_c9 dX9_part_64 wf_X9_14 (j := 2) (by decide) hbq1 rfl ?_
            refine xx_iload dX9_part_67 rfl ?_
            refine xx_iald dX9_part_69 ((oq1 (b + 2) (by omega)).trans p2) (vp_in_nI (by omega) (by decide)) ?_
            refine xx_eqi (y := nI len) (by rw [nI_clamp (by omega)]; exact p3) ?_
            refine xx_icmp_ge (tgt := 89) dX9_part_70 (by decide) (fun j70 => ?_) (fun j70 => ?_)
            · have j70 : len ≤ 4 * k + 1 := (nI_leI (a := len) (b := 4 * k + 1) (by omega) (by omega)).mp j70
              refine xx_iconst (v := 0) dX9_part_89 (by decide) ?_
              have lt9 : yr_p (N R9).natAbs (4 * k + 1) < 65536 := Nat.mod_lt _ (by decide)
              refine xx_cst (st2 := [.int (nI (yr_p (N R9).natAbs (4 * k + 1))), .long (lN (vv2 * 65536))]) (by rw [p6 (4 * k + 1) (by omega)]; rfl) ?_
              refine xx_i2l dX9_part_90 ?_
              refine xx_eql (y := lN (yr_p (N R9).natAbs (4 * k + 1))) (nI_l (by omega)) ?_
              refine xx_lor dX9_part_91 ?_
              obtain ⟨vv1, ev1⟩ : ∃ v, v = vv2 * 65536 + yr_p (N R9).natAbs (4 * k + 1) := ⟨_, rfl⟩
              have lv1 : vv1 < 281474976710656 := by omega
              refine xx_eql (y := lN vv1) (by rw [wb_or (by omega) (by omega), yr_or lt9, ev1]) ?_
              refine xx_lstore_n dX9_part_92 (by decide) ?_
              refine xx_clv (lv2 := [(0, .ref b), (1, .int bl), (2, .int (nI k)), (3, .long (lN vv1)), (5, .int (nI R9)), (6, .int 1), (7, .int (nI (4 * k + 1)))]) rfl ?_
              refine xx_iinc (v := 0) dX9_part_93 rfl (by decide) (by decide) ?_
              refine xx_clv (lv2 := [(0, .ref b), (1, .int bl), (2, .int (nI k)), (3, .long (lN vv1)), (5, .int (nI R9)), (6, .int 0), (7, .int (nI (4 * k + 1)))]) rfl ?_
              refine xx_goto (tgt := 31) dX9_part_96 (by decide) ?_
              refine xx_iload dX9_part_31 rfl ?_
              refine xx_if_lt (tgt := 99) dX9_part_33 (by decide) (fun h => absurd h (by decide)) (fun j33 => ?_)
              refine xx_aload_n dX9_part_36 rfl ?_
              refine xx_get xx_c9 dX9_part_37 wf_X9_84 (j := 0) (by decide) hbq1 rfl ?_
              refine xx_if_ne (tgt := 99) dX9_part_40 (by decide) (fun h => absurd rfl h) (fun j40 => ?_)
              refine xx_iload_n dX9_part_43 rfl ?_
              refine xx_bipush (v := 20) dX9_part_44 (by decide) ?_
              refine xx_icmp_ge (tgt := 99) dX9_part_46 (by decide) (fun h => absurd h (nI_ge (a := k) (b := 20) (by omega) (by omega))) (fun j46 => ?_)
              refine xx_iconst (v := 4) dX9_part_49 (by decide) ?_
              refine xx_iload_n dX9_part_50 rfl ?_
              refine xx_imul dX9_part_51 ?_
              refine xx_eqi (y := nI (4 * k)) (pk_mul 4 k) ?_
              refine xx_iload dX9_part_52 rfl ?_
              refine xx_iadd dX9_part_54 ?_
              refine xx_eqi (y := nI (4 * k + 0)) (nI_add (4 * k) 0) ?_
              refine xx_istore dX9_part_55 (by decide) ?_
              refine xx_clv (lv2 := [(0, .ref b), (1, .int bl), (2, .int (nI k)), (3, .long (lN vv1)), (5, .int (nI R9)), (6, .int 0), (7, .int (nI (4 * k + 0)))]) rfl ?_
              refine xx_lload_n dX9_part_57 rfl ?_
              refine xx_bipush (v := 16) dX9_part_58 (by decide) ?_
              refine xx_lshl dX9_part_60 ?_
              refine xx_eql (y := lN (vv1 * 65536)) (wb_shl _ (k := 16) (by decide)) ?_
              refine xx_iload dX9_part_61 rfl ?_
              refine xx_aload_n dX9_part_63 rfl ?_
              refine xx_get xx_c9 dX9_part_64 wf_X9_14 (j := 2) (by decide) hbq1 rfl ?_
              refine xx_iload dX9_part_67 rfl ?_
              refine xx_iald dX9_part_69 ((oq1 (b + 2) (by omega)).trans p2) (vp_in_nI (by omega) (by decide)) ?_
              refine xx_eqi (y := nI len) (by rw [nI_clamp (by omega)]; exact p3) ?_
              refine xx_icmp_ge (tgt := 89) dX9_part_70 (by decide) (fun j70 => ?_) (fun j70 => ?_)
              · have j70 : len ≤ 4 * k + 0 := (nI_leI (a := len) (b := 4 * k + 0) (by omega) (by omega)).mp j70
                refine xx_iconst (v := 0) dX9_part_89 (by decide) ?_
                have lt9 : yr_p (N R9).natAbs (4 * k + 0) < 65536 := Nat.mod_lt _ (by decide)
                refine xx_cst (st2 := [.int (nI (yr_p (N R9).natAbs (4 * k + 0))), .long (lN (vv1 * 65536))]) (by rw [p6 (4 * k + 0) (by omega)]; rfl) ?_
                refine xx_i2l dX9_part_90 ?_
                refine xx_eql (y := lN (yr_p (N R9).natAbs (4 * k + 0))) (nI_l (by omega)) ?_
                refine xx_lor dX9_part_91 ?_
                obtain ⟨vv0, ev0⟩ : ∃ v, v = vv1 * 65536 + yr_p (N R9).natAbs (4 * k + 0) := ⟨_, rfl⟩
                have lv0 : vv0 < 18446744073709551616 := by omega
                refine xx_eql (y := lN vv0) (by rw [wb_or (by omega) (by omega), yr_or lt9, ev0]) ?_
                refine xx_lstore_n dX9_part_92 (by decide) ?_
                refine xx_clv (lv2 := [(0, .ref b), (1, .int bl), (2, .int (nI k)), (3, .long (lN vv0)), (5, .int (nI R9)), (6, .int 0), (7, .int (nI (4 * k + 0)))]) rfl ?_
                refine xx_iinc (v := (-1)) dX9_part_93 rfl (by decide) (by decide) ?_
                refine xx_clv (lv2 := [(0, .ref b), (1, .int bl), (2, .int (nI k)), (3, .long (lN vv0)), (5, .int (nI R9)), (6, .int (-1)), (7, .int (nI (4 * k + 0)))]) rfl ?_
                refine xx_goto (tgt := 31) dX9_part_96 (by decide) ?_
                refine xx_iload dX9_part_31 rfl ?_
                refine xx_if_lt (tgt := 99) dX9_part_33 (by decide) (fun j33 => ?_) (fun h => absurd (by decide) h)
                refine xx_lload_n dX9_part_99 rfl ?_
                exact xx_lret dX9_part_100 rfl ⟨zq1, oq1, Or.inl ⟨⟨k, hk, rfl, by rw [← yr_4, ev0, ev1, ev2, ev3, Nat.zero_mul, Nat.zero_add]⟩, hbq1⟩⟩
              · have j70 : ¬ len ≤ 4 * k + 0 := fun hq9 => j70 ((nI_leI (a := len) (b := 4 * k + 0) (by omega) (by omega)).mpr hq9)
                refine xx_aload_n dX9_part_73 rfl ?_
                refine xx_get xx_c9 dX9_part_74 wf_X9_8 (j := 1) (by decide) hbq1 rfl ?_
                refine xx_bipush (v := 40) dX9_part_77 (by decide) ?_
                refine xx_iload dX9_part_79 rfl ?_
                refine xx_imul dX9_part_81 ?_
                refine xx_eqi (y := nI (40 * R9)) (pk_mul 40 R9) ?_
                refine xx_iload dX9_part_82 rfl ?_
                refine xx_iadd dX9_part_84 ?_
                refine xx_eqi (y := nI (40 * R9 + (4 * k + 0))) (nI_add (40 * R9) (4 * k + 0)) ?_
                refine xx_iald dX9_part_85 ((oq1 (b + 1) (by omega)).trans p1) (vp_in_nI (by omega) (by decide)) ?_
                refine xx_eqi (y := nI (yr_p (N R9).natAbs (4 * k + 0))) (by rw [nI_clamp (by omega)]; exact p5 _ (by omega)) ?_
                refine xx_goto (tgt := 90) dX9_part_86 (by decide) ?_
                have lt9 : yr_p (N R9).natAbs (4 * k + 0) < 65536 := Nat.mod_lt _ (by decide)
                refine xx_i2l dX9_part_90 ?_
                refine xx_eql (y := lN (yr_p (N R9).natAbs (4 * k + 0))) (nI_l (by omega)) ?_
                refine xx_lor dX9_part_91 ?_
                obtain ⟨vv0, ev0⟩ : ∃ v, v = vv1 * 65536 + yr_p (N R9).natAbs (4 * k + 0) := ⟨_, rfl⟩
                have lv0 : vv0 < 18446744073709551616 := by omega
                refine xx_eql (y := lN vv0) (by rw [wb_or (by omega) (by omega), yr_or lt9, ev0]) ?_
                refine xx_lstore_n dX9_part_92 (by decide) ?_
                refine xx_clv (lv2 := [(0, .ref b), (1, .int bl), (2, .int (nI k)), (3, .long (lN vv0)), (5, .int (nI R9)), (6, .int 0), (7, .int (nI (4 * k + 0)))]) rfl ?_
                refine xx_iinc (v := (-1)) dX9_part_93 rfl (by decide) (by decide) ?_
                refine xx_clv (lv2 := [(0, .ref b), (1, .int bl), (2, .int (nI k)), (3, .long (lN vv0)), (5, .int (nI R9)), (6, .int (-1)), (7, .int (nI (4 * k + 0)))]) rfl ?_
                refine xx_goto (tgt := 31) dX9_part_96 (by decide) ?_
                refine xx_iload dX9_part_31 rfl ?_
                refine xx_if_lt (tgt := 99) dX9_part_33 (by decide) (fun j33 => ?_) (fun h => absurd (by decide) h)
                refine xx_lload_n dX9_part_99 rfl ?_
                exact xx_lret dX9_part_100 rfl ⟨zq1, oq1, Or.inl ⟨⟨k, hk, rfl, by rw [← yr_4, ev0, ev1, ev2, ev3, Nat.zero_mul, Nat.zero_add]⟩, hbq1⟩⟩
            · have j70 : ¬ len ≤ 4 * k + 1 := fun hq9 => j70 ((nI_leI (a := len) (b := 4 * k + 1) (by omega) (by omega)).mpr hq9)
              refine xx_aload_n dX9_part_73 rfl ?_
              refine xx_get xx_c9 dX9_part_74 wf_X9_8 (j := 1) (by decide) hbq1 rfl ?_
              refine xx_bipush (v := 40) dX9_part_77 (by decide) ?_
              refine xx_iload dX9_part_79 rfl ?_
              refine xx_imul dX9_part_81 ?_
              refine xx_eqi (y := nI (40 * R9)) (pk_mul 40 R9) ?_
              refine xx_iload dX9_part_82 rfl ?_
              refine xx_iadd dX9_part_84 ?_
              refine xx_eqi (y := nI (40 * R9 + (4 * k + 1))) (nI_add (40 * R9) (4 * k + 1)) ?_
              refine xx_iald dX9_part_85 ((oq1 (b + 1) (by omega)).trans p1) (vp_in_nI (by omega) (by decide)) ?_
              refine xx_eqi (y := nI (yr_p (N R9).natAbs (4 * k + 1))) (by rw [nI_clamp (by omega)]; exact p5 _ (by omega)) ?_
              refine xx_goto (tgt := 90) dX9_part_86 (by decide) ?_
              have lt9 : yr_p (N R9).natAbs (4 * k + 1) < 65536 := Nat.mod_lt _ (by decide)
              refine xx_i2l dX9_part_90 ?_
              refine xx_eql (y := lN (yr_p (N R9).natAbs (4 * k + 1))) (nI_l (by omega)) ?_
              refine xx_lor dX9_part_91 ?_
              obtain ⟨vv1, ev1⟩ : ∃ v, v = vv2 * 65536 + yr_p (N R9).natAbs (4 * k + 1) := ⟨_, rfl⟩
              have lv1 : vv1 < 281474976710656 := by omega
              refine xx_eql (y := lN vv1) (by rw [wb_or (by omega) (by omega), yr_or lt9, ev1]) ?_
              refine xx_lstore_n dX9_part_92 (by decide) ?_
              refine xx_clv (lv2 := [(0, .ref b), (1, .int bl), (2, .int (nI k)), (3, .long (lN vv1)), (5, .int (nI R9)), (6, .int 1), (7, .int (nI (4 * k + 1)))]) rfl ?_
              refine xx_iinc (v := 0) dX9_part_93 rfl (by decide) (by decide) ?_
              refine xx_clv (lv2 := [(0, .ref b), (1, .int bl), (2, .int (nI k)), (3, .long (lN vv1)), (5, .int (nI R9)), (6, .int 0), (7, .int (nI (4 * k + 1)))]) rfl ?_
              refine xx_goto (tgt := 31) dX9_part_96 (by decide) ?_
              refine xx_iload dX9_part_31 rfl ?_
              refine xx_if_lt (tgt := 99) dX9_part_33 (by decide) (fun h => absurd h (by decide)) (fun j33 => ?_)
              refine xx_aload_n dX9_part_36 rfl ?_
              refine xx_get xx_c9 dX9_part_37 wf_X9_84 (j := 0) (by decide) hbq1 rfl ?_
              refine xx_if_ne (tgt := 99) dX9_part_40 (by decide) (fun h => absurd rfl h) (fun j40 => ?_)
              refine xx_iload_n dX9_part_43 rfl ?_
              refine xx_bipush (v := 20) dX9_part_44 (by decide) ?_
              refine xx_icmp_ge (tgt := 99) dX9_part_46 (by decide) (fun h => absurd h (nI_ge (a := k) (b := 20) (by omega) (by omega))) (fun j46 => ?_)
              refine xx_iconst (v := 4) dX9_part_49 (by decide) ?_
              refine xx_iload_n dX9_part_50 rfl ?_
              refine xx_imul dX9_part_51 ?_
              refine xx_eqi (y := nI (4 * k)) (pk_mul 4 k) ?_
              refine xx_iload dX9_part_52 rfl ?_
              refine xx_iadd dX9_part_54 ?_
              refine xx_eqi (y := nI (4 * k + 0)) (nI_add (4 * k) 0) ?_
              refine xx_istore dX9_part_55 (by decide) ?_
              refine xx_clv (lv2 := [(0, .ref b), (1, .int bl), (2, .int (nI k)), (3, .long (lN vv1)), (5, .int (nI R9)), (6, .int 0), (7, .int (nI (4 * k + 0)))]) rfl ?_
              refine xx_lload_n dX9_part_57 rfl ?_
              refine xx_bipush (v := 16) dX9_part_58 (by decide) ?_
              refine xx_lshl dX9_part_60 ?_
              refine xx_eql (y := lN (vv1 * 65536)) (wb_shl _ (k := 16) (by decide)) ?_
              refine xx_iload dX9_part_61 rfl ?_
              refine xx_aload_n dX9_part_63 rfl ?_
              refine xx_get xx_c9 dX9_part_64 wf_X9_14 (j := 2) (by decide) hbq1 rfl ?_
              refine xx_iload dX9_part_67 rfl ?_
              refine xx_iald dX9_part_69 ((oq1 (b + 2) (by omega)).trans p2) (vp_in_nI (by omega) (by decide)) ?_
              refine xx_eqi (y := nI len) (by rw [nI_clamp (by omega)]; exact p3) ?_
              refine xx_icmp_ge (tgt := 89) dX9_part_70 (by decide) (fun j70 => ?_) (fun j70 => ?_)
              · have j70 : len ≤ 4 * k + 0 := (nI_leI (a := len) (b := 4 * k + 0) (by omega) (by omega)).mp j70
                refine xx_iconst (v := 0) dX9_part_89 (by decide) ?_
                have lt9 : yr_p (N R9).natAbs (4 * k + 0) < 65536 := Nat.mod_lt _ (by decide)
                refine xx_cst (st2 := [.int (nI (yr_p (N R9).natAbs (4 * k + 0))), .long (lN (vv1 * 65536))]) (by rw [p6 (4 * k + 0) (by omega)]; rfl) ?_
                refine xx_i2l dX9_part_90 ?_
                refine xx_eql (y := lN (yr_p (N R9).natAbs (4 * k + 0))) (nI_l (by omega)) ?_
                refine xx_lor dX9_part_91 ?_
                obtain ⟨vv0, ev0⟩ : ∃ v, v = vv1 * 65536 + yr_p (N R9).natAbs (4 * k + 0) := ⟨_, rfl⟩
                have lv0 : vv0 < 18446744073709551616 := by omega
                refine xx_eql (y := lN vv0) (by rw [wb_or (by omega) (by omega), yr_or lt9, ev0]) ?_
                refine xx_lstore_n dX9_part_92 (by decide) ?_
                refine xx_clv (lv2 := [(0, .ref b), (1, .int bl), (2, .int (nI k)), (3, .long (lN vv0)), (5, .int (nI R9)), (6, .int 0), (7, .int (nI (4 * k + 0)))]) rfl ?_
                refine xx_iinc (v := (-1)) dX9_part_93 rfl (by decide) (by decide) ?_
                refine xx_clv (lv2 := [(0, .ref b), (1, .int bl), (2, .int (nI k)), (3, .long (lN vv0)), (5, .int (nI R9)), (6, .int (-1)), (7, .int (nI (4 * k + 0)))]) rfl ?_
                refine xx_goto (tgt := 31) dX9_part_96 (by decide) ?_
                refine xx_iload dX9_part_31 rfl ?_
                refine xx_if_lt (tgt := 99) dX9_part_33 (by decide) (fun j33 => ?_) (fun h => absurd (by decide) h)
                refine xx_lload_n dX9_part_99 rfl ?_
                exact xx_lret dX9_part_100 rfl ⟨zq1, oq1, Or.inl ⟨⟨k, hk, rfl, by rw [← yr_4, ev0, ev1, ev2, ev3, Nat.zero_mul, Nat.zero_add]⟩, hbq1⟩⟩
              · have j70 : ¬ len ≤ 4 * k + 0 := fun hq9 => j70 ((nI_leI (a := len) (b := 4 * k + 0) (by omega) (by omega)).mpr hq9)
                refine xx_aload_n dX9_part_73 rfl ?_
                refine xx_get xx_c9 dX9_part_74 wf_X9_8 (j := 1) (by decide) hbq1 rfl ?_
                refine xx_bipush (v := 40) dX9_part_77 (by decide) ?_
                refine xx_iload dX9_part_79 rfl ?_
                refine xx_imul dX9_part_81 ?_
                refine xx_eqi (y := nI (40 * R9)) (pk_mul 40 R9) ?_
                refine xx_iload dX9_part_82 rfl ?_
                refine xx_iadd dX9_part_84 ?_
                refine xx_eqi (y := nI (40 * R9 + (4 * k + 0))) (nI_add (40 * R9) (4 * k + 0)) ?_
                refine xx_iald dX9_part_85 ((oq1 (b + 1) (by omega)).trans p1) (vp_in_nI (by omega) (by decide)) ?_
                refine xx_eqi (y := nI (yr_p (N R9).natAbs (4 * k + 0))) (by rw [nI_clamp (by omega)]; exact p5 _ (by omega)) ?_
                refine xx_goto (tgt := 90) dX9_part_86 (by decide) ?_
                have lt9 : yr_p (N R9).natAbs (4 * k + 0) < 65536 := Nat.mod_lt _ (by decide)
                refine xx_i2l dX9_part_90 ?_
                refine xx_eql (y := lN (yr_p (N R9).natAbs (4 * k + 0))) (nI_l (by omega)) ?_
                refine xx_lor dX9_part_91 ?_
                obtain ⟨vv0, ev0⟩ : ∃ v, v = vv1 * 65536 + yr_p (N R9).natAbs (4 * k + 0) := ⟨_, rfl⟩
                have lv0 : vv0 < 18446744073709551616 := by omega
                refine xx_eql (y := lN vv0) (by rw [wb_or (by omega) (by omega), yr_or lt9, ev0]) ?_
                refine xx_lstore_n dX9_part_92 (by decide) ?_
                refine xx_clv (lv2 := [(0, .ref b), (1, .int bl), (2, .int (nI k)), (3, .long (lN vv0)), (5, .int (nI R9)), (6, .int 0), (7, .int (nI (4 * k + 0)))]) rfl ?_
                refine xx_iinc (v := (-1)) dX9_part_93 rfl (by decide) (by decide) ?_
                refine xx_clv (lv2 := [(0, .ref b), (1, .int bl), (2, .int (nI k)), (3, .long (lN vv0)), (5, .int (nI R9)), (6, .int (-1)), (7, .int (nI (4 * k + 0)))]) rfl ?_
                refine xx_goto (tgt := 31) dX9_part_96 (by decide) ?_
                refine xx_iload dX9_part_31 rfl ?_
                refine xx_if_lt (tgt := 99) dX9_part_33 (by decide) (fun j33 => ?_) (fun h => absurd (by decide) h)
                refine xx_lload_n dX9_part_99 rfl ?_
                exact xx_lret dX9_part_100 rfl ⟨zq1, oq1, Or.inl ⟨⟨k, hk, rfl, by rw [← yr_4, ev0, ev1, ev2, ev3, Nat.zero_mul, Nat.zero_add]⟩, hbq1⟩⟩
  · refine xx_iconst (v := 1) dX9_part_5 (by decide) ?_
    refine xx_goto (tgt := 10) dX9_part_6 (by decide) ?_
    refine xx_put xx_c9 dX9_part_10 wf_X9_84 (j := 0) (by decide) rfl rfl rfl hb (Nat.le_of_ble_eq_true rfl) (xx_gu fun Eq1 zq1 hbq1 oq1 => ?_)
    have hbq1 : Eq1.2 b = xx_o 9 (xx_mf b (.int 1) (.int (nI m)) (.int (nI n)) hr st hl en tu) := hbq1
    refine xx_lconst (v := 0) dX9_part_13 (by decide) ?_
    refine xx_lstore_n dX9_part_14 (by decide) ?_
    refine xx_clv (lv2 := [(0, .ref b), (1, .int bl), (2, .int x), (3, .long 0)]) rfl ?_
    refine xx_iload_n dX9_part_15 rfl ?_
    refine xx_if_eq (tgt := 24) dX9_part_16 (by decide) (fun j16 => ?_) (fun j16 => ?_)
    · refine xx_bipush (v := 16) dX9_part_24 (by decide) ?_
      refine xx_cst (st2 := [.int (nI R9)]) (by rw [hR9, if_pos j16]; rfl) ?_
      refine xx_istore dX9_part_26 (by decide) ?_
      refine xx_clv (lv2 := [(0, .ref b), (1, .int bl), (2, .int x), (3, .long 0), (5, .int (nI R9))]) rfl ?_
      refine xx_iconst (v := 3) dX9_part_28 (by decide) ?_
      refine xx_istore dX9_part_29 (by decide) ?_
      refine xx_clv (lv2 := [(0, .ref b), (1, .int bl), (2, .int x), (3, .long 0), (5, .int (nI R9)), (6, .int 3)]) rfl ?_
      refine xx_iload dX9_part_31 rfl ?_
      refine xx_if_lt (tgt := 99) dX9_part_33 (by decide) (fun h => absurd h (by decide)) (fun j33 => ?_)
      refine xx_aload_n dX9_part_36 rfl ?_
      refine xx_get xx_c9 dX9_part_37 wf_X9_84 (j := 0) (by decide) hbq1 rfl ?_
      refine xx_if_ne (tgt := 99) dX9_part_40 (by decide) (fun j40 => ?_) (fun h => absurd h (by decide))
      refine xx_lload_n dX9_part_99 rfl ?_
      exact xx_lret dX9_part_100 rfl ⟨zq1, oq1, Or.inr ⟨Int32.not_le.mp j2, rfl, hbq1⟩⟩
    · refine xx_bipush (v := 17) dX9_part_19 (by decide) ?_
      refine xx_goto (tgt := 26) dX9_part_21 (by decide) ?_
      refine xx_cst (st2 := [.int (nI R9)]) (by rw [hR9, if_neg j16]; rfl) ?_
      refine xx_istore dX9_part_26 (by decide) ?_
      refine xx_clv (lv2 := [(0, .ref b), (1, .int bl), (2, .int x), (3, .long 0), (5, .int (nI R9))]) rfl ?_
      refine xx_iconst (v := 3) dX9_part_28 (by decide) ?_
      refine xx_istore dX9_part_29 (by decide) ?_
      refine xx_clv (lv2 := [(0, .ref b), (1, .int bl), (2, .int x), (3, .long 0), (5, .int (nI R9)), (6, .int 3)]) rfl ?_
      refine xx_iload dX9_part_31 rfl ?_
      refine xx_if_lt (tgt := 99) dX9_part_33 (by decide) (fun h => absurd h (by decide)) (fun j33 => ?_)
      refine xx_aload_n dX9_part_36 rfl ?_
      refine xx_get xx_c9 dX9_part_37 wf_X9_84 (j := 0) (by decide) hbq1 rfl ?_
      refine xx_if_ne (tgt := 99) dX9_part_40 (by decide) (fun j40 => ?_) (fun h => absurd h (by decide))
      refine xx_lload_n dX9_part_99 rfl ?_
      exact xx_lret dX9_part_100 rfl ⟨zq1, oq1, Or.inr ⟨Int32.not_le.mp j2, rfl, hbq1⟩⟩
