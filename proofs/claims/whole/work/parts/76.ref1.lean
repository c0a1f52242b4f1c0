/-! ===== the reference's numbers ===== -/
/-- register r holds v -/
def xx_nr (f g h : Nat → Int32) (r : Nat) (v : Int) : Prop := h r = iz v.sign ∧ ∃ len, g r = nI len ∧ len ≤ 40 ∧ ∃ D : Nat → Nat, (∀ i, i < len → D i < 65536 ∧ f (40 * r + i) = nI (D i)) ∧ (0 < len → D (len - 1) ≠ 0) ∧ v.natAbs = yy_val 65536 D len
theorem xx_nr.to {f g h f' g' h' : Nat → Int32} {r : Nat} {v : Int} (H : xx_nr f g h r v) (h1 : ∀ i, i < 40 → f' (40 * r + i) = f (40 * r + i)) (h2 : g' r = g r) (h3 : h' r = h r) : xx_nr f' g' h' r v := by
  obtain ⟨a, len, b, c, D, d, e⟩ := H
  exact ⟨h3.trans a, len, h2.trans b, c, D, fun i hi => ⟨(d i hi).1, (h1 i (by omega)).trans (d i hi).2⟩, e⟩
/-- the reference's registers -/
def xx_rg (B : xx_H) (b : Nat) (N : Nat → Int) : Prop := ∃ f g h, B.2 (b + 1) = xx_i 69600 f ∧ B.2 (b + 2) = xx_i 1740 g ∧ B.2 (b + 3) = xx_i 1740 h ∧ ∀ r, r < 1740 → xx_nr f g h r (N r)
theorem xx_rg.to {B C : xx_H} {b : Nat} {N : Nat → Int} (H : xx_rg B b N) (h1 : C.2 (b + 1) = B.2 (b + 1)) (h2 : C.2 (b + 2) = B.2 (b + 2)) (h3 : C.2 (b + 3) = B.2 (b + 3)) : xx_rg C b N := by
  obtain ⟨f, g, h, a1, a2, a3, a4⟩ := H
  exact ⟨f, g, h, h1.trans a1, h2.trans a2, h3.trans a3, a4⟩
theorem xx_rg.ext {B : xx_H} {b : Nat} {N N' : Nat → Int} (H : xx_rg B b N) (h : ∀ r, r < 1740 → N r = N' r) : xx_rg B b N' := by
  obtain ⟨f, g, h9, a1, a2, a3, a4⟩ := H
  exact ⟨f, g, h9, a1, a2, a3, fun r hr => by rw [← h r hr]; exact a4 r hr⟩
/-- one register told anew -/
def yy_un (N : Nat → Int) (a : Nat) (v : Int) : Nat → Int := fun r => if r = a then v else N r
theorem yy_un_s {N : Nat → Int} {a : Nat} {v : Int} : yy_un N a v a = v := if_pos rfl
theorem yy_un_n {N : Nat → Int} {a r : Nat} {v : Int} (h : r ≠ a) : yy_un N a v r = N r := if_neg h
theorem yy_vd (n : Nat) : ∀ i, yy_val 65536 (fun j => n / 65536 ^ j % 65536) i = n % 65536 ^ i
  | 0 => by show 0 = n % 1; omega
  | i + 1 => by
    show yy_val 65536 _ i + n / 65536 ^ i % 65536 * 65536 ^ i = _
    rw [yy_vd n i, Nat.pow_succ, Nat.mod_mul]
    rw [Nat.mul_comm (65536 ^ i)]
theorem yy_sg3 (v : Int) : (v < 0 ∧ v.sign = -1) ∨ (v = 0 ∧ v.sign = 0) ∨ (0 < v ∧ v.sign = 1) := by
  rcases Int.lt_trichotomy v 0 with h | h | h
  · exact Or.inl ⟨h, Int.sign_eq_neg_one_of_neg h⟩
  · subst h; exact Or.inr (Or.inl ⟨rfl, rfl⟩)
  · exact Or.inr (Or.inr ⟨h, Int.sign_eq_one_of_pos h⟩)
theorem yy_lneg (a : Int) : -lz a = lz (-a) := (Int64.ofInt_neg a).symm
set_option maxRecDepth 100000 in
theorem l_X9_set {G : xx_G} {l : Launch} {A : xx_H} {b : Nat} {u0 : Value} {us : List Value} {a n : Nat} {f g : Nat → Int32} {Q : Option Value ⊕ String → xx_H → Prop} (hb : A.2 b = xx_o 9 (u0 :: .ref (b + 1) :: .ref (b + 2) :: .ref (b + 3) :: us)) (ha : a < 1740) (hn : n < 2 ^ 63) (k : ∀ (i : Nat) (B : xx_H) (f1 g1 : Nat → Int32), B.1 = A.1 → B.2 (b + 1) = xx_i 69600 f1 → B.2 (b + 2) = xx_i 1740 g1 → g1 a = nI i → (∀ j, j ≠ a → g1 j = g j) → (∀ j, j < i → f1 (40 * a + j) = nI (n / 65536 ^ j % 65536)) → (∀ j, j < 40 * a ∨ 40 * a + 40 ≤ j → f1 j = f j) → (0 < i → n / 65536 ^ (i - 1) ≠ 0) → (∀ q, q ≠ b + 1 → q ≠ b + 2 → B.2 q = A.2 q) → i ≤ 4 → n / 65536 ^ i = 0 → Q (.inl none) B) :
    ∀ (t i : Nat), i + t = 4 → ∀ (B : xx_H) (f1 g1 : Nat → Int32), B.1 = A.1 → B.2 (b + 1) = xx_i 69600 f1 → B.2 (b + 2) = xx_i 1740 g1 → g1 a = nI i → (∀ j, j ≠ a → g1 j = g j) → (∀ j, j < i → f1 (40 * a + j) = nI (n / 65536 ^ j % 65536)) → (∀ j, j < 40 * a ∨ 40 * a + 40 ≤ j → f1 j = f j) → (0 < i → n / 65536 ^ (i - 1) ≠ 0) → (∀ q, q ≠ b + 1 → q ≠ b + 2 → B.2 q = A.2 q) → xx_X G l mX9_set 0 0 0 48 [(0, .ref b), (1, .int (nI a)), (4, .long (lN (n / 65536 ^ i)))] [] B Q := by
  intro t
  induction t with
  | zero =>
    intro i hi B f1 g1 y1 y2 y3 y4 y5 y6 y7 y8 y9
    have : i = 4 := by omega
    subst this
    have e0 : n / 65536 ^ 4 = 0 := Nat.div_eq_of_lt (Nat.lt_of_lt_of_le hn (by decide))
    rw [e0]
    refine xx_lload dX9_set_48 rfl ?_
    refine xx_lconst (v := 0) dX9_set_50 (by decide) ?_
    refine xx_lcmp dX9_set_51 ?_
    refine xx_if_le (tgt := 98) dX9_set_52 (by decide) (fun j52 => ?_) (fun h => absurd ((lg_cmp_le _ _).mpr (by decide)) h)
    exact xx_vret dX9_set_98 rfl (k 4 B f1 g1 y1 y2 y3 y4 y5 y6 y7 y8 y9 (by decide) e0)
  | succ t ih =>
    intro i hi B f1 g1 y1 y2 y3 y4 y5 y6 y7 y8 y9
    have hb2 := (y9 b (by omega) (by omega)).trans hb
    have hle : n / 65536 ^ i ≤ n := Nat.div_le_self _ _
    have hsu : n / 65536 ^ i / 65536 = n / 65536 ^ (i + 1) := by rw [Nat.div_div_eq_div_mul, Nat.pow_succ]
    obtain ⟨R, hR⟩ : ∃ R, R = n / 65536 ^ i := ⟨_, rfl⟩
    rw [← hR] at hle hsu ⊢
    refine xx_lload dX9_set_48 rfl ?_
    refine xx_lconst (v := 0) dX9_set_50 (by decide) ?_
    refine xx_lcmp dX9_set_51 ?_
    refine xx_if_le (tgt := 98) dX9_set_52 (by decide) (fun j52 => ?_) (fun j52 => ?_)
    · have j52 : R ≤ 0 := (pk_lLE (a := R) (b := 0) (by omega) (by omega)).mp ((lg_cmp_le _ _).mp j52)
      exact xx_vret dX9_set_98 rfl (k i B f1 g1 y1 y2 y3 y4 y5 y6 y7 y8 y9 (by omega) (by omega))
    · have j52 : ¬ R ≤ 0 := fun q => j52 ((lg_cmp_le _ _).mpr ((pk_lLE (a := R) (b := 0) (by omega) (by omega)).mpr q))
      refine xx_aload_n dX9_set_55 rfl ?_
      refine xx_get xx_c9 dX9_set_56 wf_X9_8 (j := 1) (by decide) hb2 rfl ?_
      refine xx_bipush (v := 40) dX9_set_59 (by decide) ?_
      refine xx_iload_n dX9_set_61 rfl ?_
      refine xx_imul dX9_set_62 ?_
      refine xx_eqi (y := nI (40 * a)) (pk_mul 40 a) ?_
      refine xx_aload_n dX9_set_63 rfl ?_
      refine xx_get xx_c9 dX9_set_64 wf_X9_14 (j := 2) (by decide) hb2 rfl ?_
      refine xx_iload_n dX9_set_67 rfl ?_
      refine xx_iald dX9_set_68 y3 (vp_in_nI (by omega) (by decide)) ?_
      refine xx_eqi (y := nI i) (by rw [nI_clamp (by omega)]; exact y4) ?_
      refine xx_iadd dX9_set_69 ?_
      refine xx_eqi (y := nI (40 * a + i)) (nI_add (40 * a) i) ?_
      refine xx_lload dX9_set_70 rfl ?_
      refine xx_ldc2 (v := 65535) dX9_set_72 wk_X9_87 ?_
      refine xx_land dX9_set_75 ?_
      refine xx_eql (y := lN (R % 65536)) (yy_and16 (by omega)) ?_
      refine xx_l2i dX9_set_76 ?_
      refine xx_eqi (y := nI (R % 65536)) (lN_i _) ?_
      refine xx_iast dX9_set_77 y2 (vp_in_nI (by omega) (by decide)) (xx_gu fun C z1 h1 o1 => ?_)
      rw [nI_clamp (by omega)] at h1
      have hb3 := (o1 b (by omega)).trans hb2
      have y3b := (o1 (b + 2) (by omega)).trans y3
      refine xx_lload dX9_set_78 rfl ?_
      refine xx_bipush (v := 16) dX9_set_80 (by decide) ?_
      refine xx_lshr dX9_set_82 ?_
      refine xx_eql (y := lN (n / 65536 ^ (i + 1))) ((yy_lshr (n := R) (k := 16) (by omega) (by decide)).trans (congrArg lN hsu)) ?_
      refine xx_lstore dX9_set_83 (by decide) ?_
      refine xx_clv (lv2 := [(0, .ref b), (1, .int (nI a)), (4, .long (lN (n / 65536 ^ (i + 1))))]) rfl ?_
      refine xx_aload_n dX9_set_85 rfl ?_
      refine xx_get xx_c9 dX9_set_86 wf_X9_14 (j := 2) (by decide) hb3 rfl ?_
      refine xx_iload_n dX9_set_89 rfl ?_
      refine xx_dup2_11 dX9_set_90 rfl rfl ?_
      refine xx_iald dX9_set_91 y3b (vp_in_nI (by omega) (by decide)) ?_
      refine xx_eqi (y := nI i) (by rw [nI_clamp (by omega)]; exact y4) ?_
      refine xx_iconst (v := 1) dX9_set_92 (by decide) ?_
      refine xx_iadd dX9_set_93 ?_
      refine xx_eqi (y := nI (i + 1)) (nI_add i 1) ?_
      refine xx_iast dX9_set_94 y3b (vp_in_nI (by omega) (by decide)) (xx_gu fun D z2 h2 o2 => ?_)
      rw [nI_clamp (by omega)] at h2
      refine xx_goto (tgt := 48) dX9_set_95 (by decide) ?_
      refine xx_clv (lv2 := [(0, .ref b), (1, .int (nI a)), (4, .long (lN (n / 65536 ^ (i + 1))))]) rfl ?_
      refine ih (i + 1) (by omega) D (upd f1 (40 * a + i) (nI (R % 65536))) (upd g1 a (nI (i + 1))) (by omega) ((o2 _ (by omega)).trans h1) h2 pk_us (fun j hj => (pk_un hj).trans (y5 j hj)) (fun j hj => ?_) (fun j hj => (pk_un (by omega)).trans (y7 j hj)) (fun _ => by rw [Nat.add_sub_cancel, ← hR]; omega) (fun q h5 h6 => (o2 q h6).trans ((o1 q h5).trans (y9 q h5 h6)))
      by_cases e : j = i
      · subst e; rw [pk_us, hR]
      · rw [pk_un (by omega)]; exact y6 j (by omega)
set_option maxRecDepth 100000 in
theorem c_X9_set {G : xx_G} {l : Launch} {A : xx_H} {b : Nat} {u0 : Value} {us : List Value} {a : Nat} {N : Nat → Int} {v : Int} (hb : A.2 b = xx_o 9 (u0 :: .ref (b + 1) :: .ref (b + 2) :: .ref (b + 3) :: us)) (hN : xx_rg A b N) (ha : a < 1740) (h1 : -2 ^ 63 < v) (h2 : v < 2 ^ 63) : xx_X G l mX9_set 0 0 0 0 (lv_args 0 [.ref b, .int (nI a), .long (lz v)]) [] A (fun q B => q = .inl none ∧ B.1 = A.1 ∧ xx_rg B b (yy_un N a v) ∧ ∀ q, q ≠ b + 1 → q ≠ b + 2 → q ≠ b + 3 → B.2 q = A.2 q) := by
  obtain ⟨f, g, h, hf, hg, hh, hN⟩ := hN
  have J : ∀ (C : xx_H) (g2 h2 : Nat → Int32), C.1 = A.1 → C.2 (b + 1) = xx_i 69600 f → C.2 (b + 2) = xx_i 1740 g2 → C.2 (b + 3) = xx_i 1740 h2 → g2 a = nI 0 → (∀ j, j ≠ a → g2 j = g j) → h2 a = iz v.sign → (∀ j, j ≠ a → h2 j = h j) → (∀ q, q ≠ b + 1 → q ≠ b + 2 → q ≠ b + 3 → C.2 q = A.2 q) → xx_X G l mX9_set 0 0 0 48 [(0, .ref b), (1, .int (nI a)), (4, .long (lN v.natAbs))] [] C (fun q B => q = .inl none ∧ B.1 = A.1 ∧ xx_rg B b (yy_un N a v) ∧ ∀ q, q ≠ b + 1 → q ≠ b + 2 → q ≠ b + 3 → B.2 q = A.2 q) := by
    intro C g2 h2 z1 z2 z3 z4 z5 z6 z7 z8 z9
    have e1 : v.natAbs = v.natAbs / 65536 ^ 0 := by rw [Nat.pow_zero, Nat.div_one]
    rw [e1]
    refine l_X9_set (A := C) (f := f) (g := g2) (n := v.natAbs) ((z9 b (by omega) (by omega) (by omega)).trans hb) ha (by omega) (fun i B f1 g1 y1 y2 y3 y4 y5 y6 y7 y8 y9 hi4 hz => ⟨rfl, by omega, ⟨f1, g1, h2, y2, y3, (y9 _ (by omega) (by omega)).trans z4, fun r hr => ?_⟩, fun q a1 a2 a3 => (y9 q a1 a2).trans (z9 q a1 a2 a3)⟩) 4 0 rfl C f g2 rfl z2 z3 z5 (fun _ _ => rfl) (fun j hj => absurd hj (Nat.not_lt_zero j)) (fun _ _ => rfl) (fun h9 => absurd h9 (Nat.lt_irrefl 0)) (fun q _ _ => rfl)
    by_cases e : r = a
    · subst e
      rw [yy_un_s]
      refine ⟨z7, i, y4, by omega, fun j => v.natAbs / 65536 ^ j % 65536, fun j hj => ⟨Nat.mod_lt _ (by decide), y6 j hj⟩, fun h9 => ?_, ?_⟩
      · have h8 := y8 h9
        have h7 : v.natAbs / 65536 ^ (i - 1) / 65536 = 0 := by rw [Nat.div_div_eq_div_mul, ← Nat.pow_succ, show (i - 1).succ = i by omega]; exact hz
        show v.natAbs / 65536 ^ (i - 1) % 65536 ≠ 0
        omega
      · rw [yy_vd]
        have := Nat.div_add_mod v.natAbs (65536 ^ i)
        rw [hz] at this
        omega
    · rw [yy_un_n e]
      exact (hN r hr).to (fun i hi => y7 _ (by omega)) ((y5 r e).trans (z6 r e)) (z8 r e)
  rcases yy_sg3 v with ⟨s1, s2⟩ | ⟨s1, s2⟩ | ⟨s1, s2⟩
  · refine xx_clv (lv2 := [(0, .ref b), (1, .int (nI a)), (2, .long (lz v))]) rfl ?_
    refine xx_lload_n dX9_set_0 rfl ?_
    refine xx_lconst (v := 0) dX9_set_1 (by decide) ?_
    refine xx_lcmp dX9_set_2 ?_
    refine xx_if_ge (tgt := 11) dX9_set_3 (by decide) (fun h => absurd ((lg_cmp_ge _ _).mp h) (Int64.not_le.mpr ((lz_lt (a := v) (b := 0) (by omega) (by omega) (by decide) (by decide)).mpr s1))) (fun j3 => ?_)
    refine xx_lload_n dX9_set_6 rfl ?_
    refine xx_lneg dX9_set_7 ?_
    refine xx_eql (y := lN v.natAbs) (by rw [lN_lz, yy_lneg]; congr 1; omega) ?_
    refine xx_goto (tgt := 12) dX9_set_8 (by decide) ?_
    refine xx_lstore dX9_set_12 (by decide) ?_
    refine xx_clv (lv2 := [(0, .ref b), (1, .int (nI a)), (2, .long (lz v)), (4, .long (lN v.natAbs))]) rfl ?_
    refine xx_aload_n dX9_set_14 rfl ?_
    refine xx_get xx_c9 dX9_set_15 wf_X9_17 (j := 3) (by decide) hb rfl ?_
    refine xx_iload_n dX9_set_18 rfl ?_
    refine xx_lload_n dX9_set_19 rfl ?_
    refine xx_lconst (v := 0) dX9_set_20 (by decide) ?_
    refine xx_lcmp dX9_set_21 ?_
    refine xx_if_ge (tgt := 29) dX9_set_22 (by decide) (fun h => absurd ((lg_cmp_ge _ _).mp h) (Int64.not_le.mpr ((lz_lt (a := v) (b := 0) (by omega) (by omega) (by decide) (by decide)).mpr s1))) (fun j22 => ?_)
    refine xx_iconst (v := (-1)) dX9_set_25 (by decide) ?_
    refine xx_goto (tgt := 40) dX9_set_26 (by decide) ?_
    refine xx_iast dX9_set_40 hh (vp_in_nI (by omega) (by decide)) (xx_gu fun B z1 w1 o1 => ?_)
    rw [nI_clamp (by omega)] at w1
    have hb2 := (o1 b (by omega)).trans hb
    have hg2 := (o1 (b + 2) (by omega)).trans hg
    refine xx_aload_n dX9_set_41 rfl ?_
    refine xx_get xx_c9 dX9_set_42 wf_X9_14 (j := 2) (by decide) hb2 rfl ?_
    refine xx_iload_n dX9_set_45 rfl ?_
    refine xx_iconst (v := 0) dX9_set_46 (by decide) ?_
    refine xx_iast dX9_set_47 hg2 (vp_in_nI (by omega) (by decide)) (xx_gu fun C z2 w2 o2 => ?_)
    rw [nI_clamp (by omega)] at w2
    refine xx_less [0, 1, 4] ?_
    refine xx_clv (lv2 := [(0, .ref b), (1, .int (nI a)), (4, .long (lN v.natAbs))]) rfl ?_
    exact J C _ _ (by omega) ((o2 _ (by omega)).trans ((o1 _ (by omega)).trans hf)) w2 ((o2 _ (by omega)).trans w1) pk_us (fun j hj => pk_un hj) (by rw [pk_us, s2]; rfl) (fun j hj => pk_un hj) (fun q a1 a2 a3 => (o2 q a2).trans (o1 q a3))
  · refine xx_clv (lv2 := [(0, .ref b), (1, .int (nI a)), (2, .long (lz v))]) rfl ?_
    refine xx_lload_n dX9_set_0 rfl ?_
    refine xx_lconst (v := 0) dX9_set_1 (by decide) ?_
    refine xx_lcmp dX9_set_2 ?_
    refine xx_if_ge (tgt := 11) dX9_set_3 (by decide) (fun j3 => ?_) (fun h => absurd ((lg_cmp_ge _ _).mpr (Int64.not_lt.mp (fun q => absurd ((lz_lt (a := v) (b := 0) (by omega) (by omega) (by decide) (by decide)).mp q) (by omega)))) h)
    refine xx_lload_n dX9_set_11 rfl ?_
    refine xx_eql (y := lN v.natAbs) (by rw [lN_lz]; congr 1; omega) ?_
    refine xx_lstore dX9_set_12 (by decide) ?_
    refine xx_clv (lv2 := [(0, .ref b), (1, .int (nI a)), (2, .long (lz v)), (4, .long (lN v.natAbs))]) rfl ?_
    refine xx_aload_n dX9_set_14 rfl ?_
    refine xx_get xx_c9 dX9_set_15 wf_X9_17 (j := 3) (by decide) hb rfl ?_
    refine xx_iload_n dX9_set_18 rfl ?_
    refine xx_lload_n dX9_set_19 rfl ?_
    refine xx_lconst (v := 0) dX9_set_20 (by decide) ?_
    refine xx_lcmp dX9_set_21 ?_
    refine xx_if_ge (tgt := 29) dX9_set_22 (by decide) (fun j22 => ?_) (fun h => absurd ((lg_cmp_ge _ _).mpr (Int64.not_lt.mp (fun q => absurd ((lz_lt (a := v) (b := 0) (by omega) (by omega) (by decide) (by decide)).mp q) (by omega)))) h)
    refine xx_lload_n dX9_set_29 rfl ?_
    refine xx_lconst (v := 0) dX9_set_30 (by decide) ?_
    refine xx_lcmp dX9_set_31 ?_
    refine xx_if_le (tgt := 39) dX9_set_32 (by decide) (fun j32 => ?_) (fun h => absurd ((lg_cmp_le _ _).mpr (Int64.not_lt.mp (fun q => absurd ((lz_lt (a := 0) (b := v) (by decide) (by decide) (by omega) (by omega)).mp q) (by omega)))) h)
    refine xx_iconst (v := 0) dX9_set_39 (by decide) ?_
    refine xx_iast dX9_set_40 hh (vp_in_nI (by omega) (by decide)) (xx_gu fun B z1 w1 o1 => ?_)
    rw [nI_clamp (by omega)] at w1
    have hb2 := (o1 b (by omega)).trans hb
    have hg2 := (o1 (b + 2) (by omega)).trans hg
    refine xx_aload_n dX9_set_41 rfl ?_
    refine xx_get xx_c9 dX9_set_42 wf_X9_14 (j := 2) (by decide) hb2 rfl ?_
    refine xx_iload_n dX9_set_45 rfl ?_
    refine xx_iconst (v := 0) dX9_set_46 (by decide) ?_
    refine xx_iast dX9_set_47 hg2 (vp_in_nI (by omega) (by decide)) (xx_gu fun C z2 w2 o2 => ?_)
    rw [nI_clamp (by omega)] at w2
    refine xx_less [0, 1, 4] ?_
    refine xx_clv (lv2 := [(0, .ref b), (1, .int (nI a)), (4, .long (lN v.natAbs))]) rfl ?_
    exact J C _ _ (by omega) ((o2 _ (by omega)).trans ((o1 _ (by omega)).trans hf)) w2 ((o2 _ (by omega)).trans w1) pk_us (fun j hj => pk_un hj) (by rw [pk_us, s2]; rfl) (fun j hj => pk_un hj) (fun q a1 a2 a3 => (o2 q a2).trans (o1 q a3))
  · refine xx_clv (lv2 := [(0, .ref b), (1, .int (nI a)), (2, .long (lz v))]) rfl ?_
    refine xx_lload_n dX9_set_0 rfl ?_
    refine xx_lconst (v := 0) dX9_set_1 (by decide) ?_
    refine xx_lcmp dX9_set_2 ?_
    refine xx_if_ge (tgt := 11) dX9_set_3 (by decide) (fun j3 => ?_) (fun h => absurd ((lg_cmp_ge _ _).mpr (Int64.not_lt.mp (fun q => absurd ((lz_lt (a := v) (b := 0) (by omega) (by omega) (by decide) (by decide)).mp q) (by omega)))) h)
    refine xx_lload_n dX9_set_11 rfl ?_
    refine xx_eql (y := lN v.natAbs) (by rw [lN_lz]; congr 1; omega) ?_
    refine xx_lstore dX9_set_12 (by decide) ?_
    refine xx_clv (lv2 := [(0, .ref b), (1, .int (nI a)), (2, .long (lz v)), (4, .long (lN v.natAbs))]) rfl ?_
    refine xx_aload_n dX9_set_14 rfl ?_
    refine xx_get xx_c9 dX9_set_15 wf_X9_17 (j := 3) (by decide) hb rfl ?_
    refine xx_iload_n dX9_set_18 rfl ?_
    refine xx_lload_n dX9_set_19 rfl ?_
    refine xx_lconst (v := 0) dX9_set_20 (by decide) ?_
    refine xx_lcmp dX9_set_21 ?_
    refine xx_if_ge (tgt := 29) dX9_set_22 (by decide) (fun j22 => ?_) (fun h => absurd ((lg_cmp_ge _ _).mpr (Int64.not_lt.mp (fun q => absurd ((lz_lt (a := v) (b := 0) (by omega) (by omega) (by decide) (by decide)).mp q) (by omega)))) h)
    refine xx_lload_n dX9_set_29 rfl ?_
    refine xx_lconst (v := 0) dX9_set_30 (by decide) ?_
    refine xx_lcmp dX9_set_31 ?_
    refine xx_if_le (tgt := 39) dX9_set_32 (by decide) (fun h => absurd ((lg_cmp_le _ _).mp h) (Int64.not_le.mpr ((lz_lt (a := 0) (b := v) (by decide) (by decide) (by omega) (by omega)).mpr s1))) (fun j32 => ?_)
    refine xx_iconst (v := 1) dX9_set_35 (by decide) ?_
    refine xx_goto (tgt := 40) dX9_set_36 (by decide) ?_
    refine xx_iast dX9_set_40 hh (vp_in_nI (by omega) (by decide)) (xx_gu fun B z1 w1 o1 => ?_)
    rw [nI_clamp (by omega)] at w1
    have hb2 := (o1 b (by omega)).trans hb
    have hg2 := (o1 (b + 2) (by omega)).trans hg
    refine xx_aload_n dX9_set_41 rfl ?_
    refine xx_get xx_c9 dX9_set_42 wf_X9_14 (j := 2) (by decide) hb2 rfl ?_
    refine xx_iload_n dX9_set_45 rfl ?_
    refine xx_iconst (v := 0) dX9_set_46 (by decide) ?_
    refine xx_iast dX9_set_47 hg2 (vp_in_nI (by omega) (by decide)) (xx_gu fun C z2 w2 o2 => ?_)
    rw [nI_clamp (by omega)] at w2
    refine xx_less [0, 1, 4] ?_
    refine xx_clv (lv2 := [(0, .ref b), (1, .int (nI a)), (4, .long (lN v.natAbs))]) rfl ?_
    exact J C _ _ (by omega) ((o2 _ (by omega)).trans ((o1 _ (by omega)).trans hf)) w2 ((o2 _ (by omega)).trans w1) pk_us (fun j hj => pk_un hj) (by rw [pk_us, s2]; rfl) (fun j hj => pk_un hj) (fun q a1 a2 a3 => (o2 q a2).trans (o1 q a3))
set_option maxRecDepth 100000 in
theorem l_X9_copy {G : xx_G} {l : Launch} {A : xx_H} {b : Nat} {u0 : Value} {us : List Value} {x a len : Nat} {f g : Nat → Int32} {Q : Option Value ⊕ String → xx_H → Prop} (hb : A.2 b = xx_o 9 (u0 :: .ref (b + 1) :: .ref (b + 2) :: .ref (b + 3) :: us)) (hx : x < 1740) (ha : a < 1740) (hxa : x ≠ a) (hl : len ≤ 40) (hg : A.2 (b + 2) = xx_i 1740 g) (hgx : g x = nI len) (k : ∀ (B : xx_H) (f1 : Nat → Int32), B.1 = A.1 → B.2 (b + 1) = xx_i 69600 f1 → (∀ j, j < len → f1 (40 * a + j) = f (40 * x + j)) → (∀ j, j < 40 * a ∨ 40 * a + 40 ≤ j → f1 j = f j) → (∀ q, q ≠ b + 1 → B.2 q = A.2 q) → Q (.inl none) B) :
    ∀ (t i : Nat), i + t = len → ∀ (B : xx_H) (f1 : Nat → Int32), B.1 = A.1 → B.2 (b + 1) = xx_i 69600 f1 → (∀ j, j < i → f1 (40 * a + j) = f (40 * x + j)) → (∀ j, j < 40 * a ∨ 40 * a + 40 ≤ j → f1 j = f j) → (∀ q, q ≠ b + 1 → B.2 q = A.2 q) → xx_X G l mX9_copy 0 0 0 26 [(0, .ref b), (1, .int (nI x)), (2, .int (nI a)), (3, .int (nI i))] [] B Q := by
  intro t
  induction t with
  | zero =>
    intro i hi B f1 y1 y2 y3 y4 y5
    have : i = len := by omega
    subst this
    have hb2 := (y5 b (by omega)).trans hb
    have hg2 := (y5 (b + 2) (by omega)).trans hg
    refine xx_iload_n dX9_copy_26 rfl ?_
    refine xx_aload_n dX9_copy_27 rfl ?_
    refine xx_get xx_c9 dX9_copy_28 wf_X9_14 (j := 2) (by decide) hb2 rfl ?_
    refine xx_iload_n dX9_copy_31 rfl ?_
    refine xx_iald dX9_copy_32 hg2 (vp_in_nI (by omega) (by decide)) ?_
    refine xx_eqi (y := nI i) (by rw [nI_clamp (by omega)]; exact hgx) ?_
    refine xx_icmp_ge (tgt := 64) dX9_copy_33 (by decide) (fun j33 => ?_) (fun h => absurd (Int32.le_refl _) h)
    exact xx_vret dX9_copy_64 rfl (k B f1 y1 y2 y3 y4 y5)
  | succ t ih =>
    intro i hi B f1 y1 y2 y3 y4 y5
    have hb2 := (y5 b (by omega)).trans hb
    have hg2 := (y5 (b + 2) (by omega)).trans hg
    refine xx_iload_n dX9_copy_26 rfl ?_
    refine xx_aload_n dX9_copy_27 rfl ?_
    refine xx_get xx_c9 dX9_copy_28 wf_X9_14 (j := 2) (by decide) hb2 rfl ?_
    refine xx_iload_n dX9_copy_31 rfl ?_
    refine xx_iald dX9_copy_32 hg2 (vp_in_nI (by omega) (by decide)) ?_
    refine xx_eqi (y := nI len) (by rw [nI_clamp (by omega)]; exact hgx) ?_
    refine xx_icmp_ge (tgt := 64) dX9_copy_33 (by decide) (fun h => absurd h (nI_ge (by omega) (by omega))) (fun j33 => ?_)
    refine xx_aload_n dX9_copy_36 rfl ?_
    refine xx_get xx_c9 dX9_copy_37 wf_X9_8 (j := 1) (by decide) hb2 rfl ?_
    refine xx_bipush (v := 40) dX9_copy_40 (by decide) ?_
    refine xx_iload_n dX9_copy_42 rfl ?_
    refine xx_imul dX9_copy_43 ?_
    refine xx_eqi (y := nI (40 * a)) (pk_mul 40 a) ?_
    refine xx_iload_n dX9_copy_44 rfl ?_
    refine xx_iadd dX9_copy_45 ?_
    refine xx_eqi (y := nI (40 * a + i)) (nI_add (40 * a) i) ?_
    refine xx_aload_n dX9_copy_46 rfl ?_
    refine xx_get xx_c9 dX9_copy_47 wf_X9_8 (j := 1) (by decide) hb2 rfl ?_
    refine xx_bipush (v := 40) dX9_copy_50 (by decide) ?_
    refine xx_iload_n dX9_copy_52 rfl ?_
    refine xx_imul dX9_copy_53 ?_
    refine xx_eqi (y := nI (40 * x)) (pk_mul 40 x) ?_
    refine xx_iload_n dX9_copy_54 rfl ?_
    refine xx_iadd dX9_copy_55 ?_
    refine xx_eqi (y := nI (40 * x + i)) (nI_add (40 * x) i) ?_
    refine xx_iald dX9_copy_56 y2 (vp_in_nI (by omega) (by decide)) ?_
    refine xx_eqi (y := f (40 * x + i)) (by rw [nI_clamp (by omega)]; exact y4 _ (by omega)) ?_
    refine xx_iast dX9_copy_57 y2 (vp_in_nI (by omega) (by decide)) (xx_gu fun C z1 h1 o1 => ?_)
    rw [nI_clamp (by omega)] at h1
    refine xx_iinc (v := nI (i + 1)) dX9_copy_58 rfl (nI_1 i) (by decide) ?_
    refine xx_goto (tgt := 26) dX9_copy_61 (by decide) ?_
    refine xx_clv (lv2 := [(0, .ref b), (1, .int (nI x)), (2, .int (nI a)), (3, .int (nI (i + 1)))]) rfl ?_
    refine ih (i + 1) (by omega) C _ (by omega) h1 (fun j hj => ?_) (fun j hj => (pk_un (by omega)).trans (y4 j hj)) (fun q hq => (o1 q hq).trans (y5 q hq))
    by_cases e : j = i
    · subst e; rw [pk_us]
    · rw [pk_un (by omega)]; exact y3 j (by omega)
set_option maxRecDepth 100000 in
theorem c_X9_copy {G : xx_G} {l : Launch} {A : xx_H} {b : Nat} {u0 : Value} {us : List Value} {x a : Nat} {N : Nat → Int} (hb : A.2 b = xx_o 9 (u0 :: .ref (b + 1) :: .ref (b + 2) :: .ref (b + 3) :: us)) (hN : xx_rg A b N) (hx : x < 1740) (ha : a < 1740) (hxa : x ≠ a) : xx_X G l mX9_copy 0 0 0 0 (lv_args 0 [.ref b, .int (nI x), .int (nI a)]) [] A (fun q B => q = .inl none ∧ B.1 = A.1 ∧ xx_rg B b (yy_un N a (N x)) ∧ ∀ q, q ≠ b + 1 → q ≠ b + 2 → q ≠ b + 3 → B.2 q = A.2 q) := by
  obtain ⟨f, g, h, hf, hg, hh, hN⟩ := hN
  obtain ⟨x1, len, x2, x3, D, x4, x5, x6⟩ := hN x hx
  refine xx_clv (lv2 := [(0, .ref b), (1, .int (nI x)), (2, .int (nI a))]) rfl ?_
  refine xx_aload_n dX9_copy_0 rfl ?_
  refine xx_get xx_c9 dX9_copy_1 wf_X9_17 (j := 3) (by decide) hb rfl ?_
  refine xx_iload_n dX9_copy_4 rfl ?_
  refine xx_aload_n dX9_copy_5 rfl ?_
  refine xx_get xx_c9 dX9_copy_6 wf_X9_17 (j := 3) (by decide) hb rfl ?_
  refine xx_iload_n dX9_copy_9 rfl ?_
  refine xx_iald dX9_copy_10 hh (vp_in_nI (by omega) (by decide)) ?_
  refine xx_eqi (y := iz (N x).sign) (by rw [nI_clamp (by omega)]; exact x1) ?_
  refine xx_iast dX9_copy_11 hh (vp_in_nI (by omega) (by decide)) (xx_gu fun B z1 h1 o1 => ?_)
  rw [nI_clamp (by omega)] at h1
  have hb2 := (o1 b (by omega)).trans hb
  have hg2 := (o1 (b + 2) (by omega)).trans hg
  refine xx_aload_n dX9_copy_12 rfl ?_
  refine xx_get xx_c9 dX9_copy_13 wf_X9_14 (j := 2) (by decide) hb2 rfl ?_
  refine xx_iload_n dX9_copy_16 rfl ?_
  refine xx_aload_n dX9_copy_17 rfl ?_
  refine xx_get xx_c9 dX9_copy_18 wf_X9_14 (j := 2) (by decide) hb2 rfl ?_
  refine xx_iload_n dX9_copy_21 rfl ?_
  refine xx_iald dX9_copy_22 hg2 (vp_in_nI (by omega) (by decide)) ?_
  refine xx_eqi (y := nI len) (by rw [nI_clamp (by omega)]; exact x2) ?_
  refine xx_iast dX9_copy_23 hg2 (vp_in_nI (by omega) (by decide)) (xx_gu fun C z2 h2 o2 => ?_)
  rw [nI_clamp (by omega)] at h2
  refine xx_iconst (v := 0) dX9_copy_24 (by decide) ?_
  refine xx_istore_n dX9_copy_25 (by decide) ?_
  refine xx_clv (lv2 := [(0, .ref b), (1, .int (nI x)), (2, .int (nI a)), (3, .int 0)]) rfl ?_
  refine xx_clv (lv2 := [(0, .ref b), (1, .int (nI x)), (2, .int (nI a)), (3, .int (nI 0))]) rfl ?_
  refine l_X9_copy (A := C) (f := f) ((o2 b (by omega)).trans hb2) hx ha hxa x3 h2 ((pk_un hxa).trans x2) (fun E f1 y1 y2 y3 y4 y5 => ⟨rfl, by omega, ⟨f1, _, _, y2, (y5 _ (by omega)).trans h2, (y5 _ (by omega)).trans ((o2 _ (by omega)).trans h1), fun r hr => ?_⟩, fun q a1 a2 a3 => (y5 q a1).trans ((o2 q a2).trans (o1 q a3))⟩) len 0 (by omega) C f rfl ((o2 _ (by omega)).trans ((o1 _ (by omega)).trans hf)) (fun j hj => absurd hj (Nat.not_lt_zero j)) (fun _ _ => rfl) (fun q _ => rfl)
  by_cases e : r = a
  · subst e; rw [yy_un_s]
    exact ⟨pk_us, len, pk_us, x3, D, fun i hi => ⟨(x4 i hi).1, (y3 i hi).trans (x4 i hi).2⟩, x5, x6⟩
  · rw [yy_un_n e]
    exact (hN r hr).to (fun i hi => y4 _ (by omega)) (pk_un e) (pk_un e)
theorem yy_ttop {D : Nat → Nat} {n : Nat} (h : D n = 0) : yy_val 65536 D (n + 1) = yy_val 65536 D n := by
  show yy_val 65536 D n + D n * _ = _
  rw [h]; simp
set_option maxRecDepth 100000 in
theorem l_X9_trim {G : xx_G} {l : Launch} {A : xx_H} {b : Nat} {u0 : Value} {us : List Value} {a : Nat} {f : Nat → Int32} {D : Nat → Nat} {V : Nat} {lv2 : Value} {Q : Option Value ⊕ String → xx_H → Prop} (hb : A.2 b = xx_o 9 (u0 :: .ref (b + 1) :: .ref (b + 2) :: .ref (b + 3) :: us)) (ha : a < 1740) (hf : A.2 (b + 1) = xx_i 69600 f) (k : ∀ n, n ≤ 40 → (0 < n → D (n - 1) ≠ 0) → yy_val 65536 D n = V → (∀ i, i < n → D i < 65536 ∧ f (40 * a + i) = nI (D i)) → xx_X G l mX9_trim 0 0 0 28 [(0, .ref b), (1, .int (nI a)), (3, .int (nI n))] [] A Q) :
    ∀ (n : Nat), n ≤ 40 → (∀ i, i < n → D i < 65536 ∧ f (40 * a + i) = nI (D i)) → yy_val 65536 D n = V → xx_X G l mX9_trim 0 0 0 2 [(0, .ref b), (1, .int (nI a)), (3, .int (nI n))] [] A Q := by
  intro n
  induction n with
  | zero =>
    intro hn hD hv
    refine xx_iload_n dX9_trim_2 rfl ?_
    refine xx_if_le (tgt := 28) dX9_trim_3 (by decide) (fun j3 => ?_) (fun h => absurd (by decide) h)
    exact k 0 hn (fun h => absurd h (Nat.lt_irrefl 0)) hv hD
  | succ n ih =>
    intro hn hD hv
    obtain ⟨p1, q1⟩ := hD n (by omega)
    have e1 : 40 * a + (n + 1) - 1 = 40 * a + n := by omega
    refine xx_iload_n dX9_trim_2 rfl ?_
    refine xx_if_le (tgt := 28) dX9_trim_3 (by decide) (fun h => absurd h (nI_nle (by omega) (by omega))) (fun j3 => ?_)
    refine xx_aload_n dX9_trim_6 rfl ?_
    refine xx_get xx_c9 dX9_trim_7 wf_X9_8 (j := 1) (by decide) hb rfl ?_
    refine xx_bipush (v := 40) dX9_trim_10 (by decide) ?_
    refine xx_iload_n dX9_trim_12 rfl ?_
    refine xx_imul dX9_trim_13 ?_
    refine xx_eqi (y := nI (40 * a)) (pk_mul 40 a) ?_
    refine xx_iload_n dX9_trim_14 rfl ?_
    refine xx_iadd dX9_trim_15 ?_
    refine xx_eqi (y := nI (40 * a + (n + 1))) (nI_add (40 * a) (n + 1)) ?_
    refine xx_iconst (v := 1) dX9_trim_16 (by decide) ?_
    refine xx_isub dX9_trim_17 ?_
    refine xx_eqi (y := nI ((40 * a + (n + 1)) - 1)) (pk_sub (a := 40 * a + (n + 1)) (b := 1) (by omega)) ?_
    refine xx_eqi (y := nI (40 * a + n)) (by rw [e1]) ?_
    refine xx_iald dX9_trim_18 hf (vp_in_nI (by omega) (by decide)) ?_
    refine xx_eqi (y := nI (D n)) (by rw [nI_clamp (by omega)]; exact q1) ?_
    refine xx_if_ne (tgt := 28) dX9_trim_19 (by decide) (fun j19 => ?_) (fun j19 => ?_)
    · have j19 : ¬ D n = 0 := fun q => j19 ((nI_eq (a := D n) (b := 0) (by omega) (by omega)).mpr q)
      exact k (n + 1) hn (fun _ => by rw [Nat.add_sub_cancel]; exact j19) hv hD
    · have j19 : D n = 0 := (nI_eq (a := D n) (b := 0) (by omega) (by omega)).mp j19
      refine xx_iinc (v := nI n) dX9_trim_22 rfl (pk_m1 n) (by decide) ?_
      refine xx_goto (tgt := 2) dX9_trim_25 (by decide) ?_
      refine xx_clv (lv2 := [(0, .ref b), (1, .int (nI a)), (3, .int (nI n))]) rfl ?_
      exact ih (by omega) (fun i hi => hD i (by omega)) ((yy_ttop j19).symm.trans hv)
set_option maxRecDepth 100000 in
theorem c_X9_trim {G : xx_G} {l : Launch} {A : xx_H} {b : Nat} {u0 : Value} {us : List Value} {a n : Nat} {f g h : Nat → Int32} {D : Nat → Nat} {N : Nat → Int} {v : Int} (hb : A.2 b = xx_o 9 (u0 :: .ref (b + 1) :: .ref (b + 2) :: .ref (b + 3) :: us)) (hf : A.2 (b + 1) = xx_i 69600 f) (hg : A.2 (b + 2) = xx_i 1740 g) (hh : A.2 (b + 3) = xx_i 1740 h) (hN : ∀ r, r < 1740 → r ≠ a → xx_nr f g h r (N r)) (ha : a < 1740) (hn : n ≤ 40) (hD : ∀ i, i < n → D i < 65536 ∧ f (40 * a + i) = nI (D i)) (hv : v.natAbs = yy_val 65536 D n) (hs : v ≠ 0 → h a = iz v.sign) : xx_X G l mX9_trim 0 0 0 0 (lv_args 0 [.ref b, .int (nI a), .int (nI n)]) [] A (fun q B => q = .inl none ∧ B.1 = A.1 ∧ xx_rg B b (yy_un N a v) ∧ ∀ q, q ≠ b + 2 → q ≠ b + 3 → B.2 q = A.2 q) := by
  refine xx_clv (lv2 := [(0, .ref b), (1, .int (nI a)), (2, .int (nI n))]) rfl ?_
  refine xx_iload_n dX9_trim_0 rfl ?_
  refine xx_istore_n dX9_trim_1 (by decide) ?_
  refine xx_clv (lv2 := [(0, .ref b), (1, .int (nI a)), (2, .int (nI n)), (3, .int (nI n))]) rfl ?_
  refine xx_less [0, 1, 3] ?_
  refine xx_clv (lv2 := [(0, .ref b), (1, .int (nI a)), (3, .int (nI n))]) rfl ?_
  refine l_X9_trim (V := yy_val 65536 D n) (lv2 := .null) hb ha hf (fun m m1 m2 m3 m4 => ?_) n hn hD rfl
  rw [← hv] at m3
  refine xx_aload_n dX9_trim_28 rfl ?_
  refine xx_get xx_c9 dX9_trim_29 wf_X9_14 (j := 2) (by decide) hb rfl ?_
  refine xx_iload_n dX9_trim_32 rfl ?_
  refine xx_iload_n dX9_trim_33 rfl ?_
  refine xx_iast dX9_trim_34 hg (vp_in_nI (by omega) (by decide)) (xx_gu fun B z1 h1 o1 => ?_)
  rw [nI_clamp (by omega)] at h1
  have hb2 := (o1 b (by omega)).trans hb
  have hh2 := (o1 (b + 3) (by omega)).trans hh
  refine xx_aload_n dX9_trim_35 rfl ?_
  refine xx_get xx_c9 dX9_trim_36 wf_X9_17 (j := 3) (by decide) hb2 rfl ?_
  refine xx_iload_n dX9_trim_39 rfl ?_
  refine xx_iload_n dX9_trim_40 rfl ?_
  refine xx_if_ne (tgt := 48) dX9_trim_41 (by decide) (fun j41 => ?_) (fun j41 => ?_)
  · have j41 : ¬ m = 0 := fun q => j41 ((nI_eq (a := m) (b := 0) (by omega) (by omega)).mpr q)
    refine xx_aload_n dX9_trim_48 rfl ?_
    refine xx_get xx_c9 dX9_trim_49 wf_X9_17 (j := 3) (by decide) hb2 rfl ?_
    refine xx_iload_n dX9_trim_52 rfl ?_
    refine xx_iald dX9_trim_53 hh2 (vp_in_nI (by omega) (by decide)) ?_
    refine xx_eqi (y := h a) (by rw [nI_clamp (by omega)]) ?_
    refine xx_iast dX9_trim_54 hh2 (vp_in_nI (by omega) (by decide)) (xx_gu fun C z2 h2 o2 => ?_)
    rw [nI_clamp (by omega)] at h2
    refine xx_vret dX9_trim_55 rfl ⟨rfl, by omega, ⟨f, _, _, (o2 _ (by omega)).trans ((o1 _ (by omega)).trans hf), (o2 _ (by omega)).trans h1, h2, fun r hr => ?_⟩, fun q a1 a2 => (o2 q a2).trans (o1 q a1)⟩
    by_cases e : r = a
    · subst e; rw [yy_un_s]
      have hv0 : v ≠ 0 := by
        intro q; subst q
        obtain ⟨m0, rfl⟩ : ∃ m0, m = m0 + 1 := ⟨m - 1, by omega⟩
        have a1 := yy_val_top (β := 65536) (D := D) (n := m0) (m2 (by omega))
        rw [m3] at a1
        have a2 : 0 < 65536 ^ m0 := Nat.pow_pos (by decide)
        simp at a1
      refine ⟨pk_us.trans (hs hv0), m, pk_us, m1, D, m4, m2, m3.symm⟩
    · rw [yy_un_n e]
      exact (hN r hr e).to (fun i hi => rfl) (pk_un e) (pk_un e)
  · have j41 : m = 0 := (nI_eq (a := m) (b := 0) (by omega) (by omega)).mp j41
    refine xx_iconst (v := 0) dX9_trim_44 (by decide) ?_
    refine xx_goto (tgt := 54) dX9_trim_45 (by decide) ?_
    refine xx_iast dX9_trim_54 hh2 (vp_in_nI (by omega) (by decide)) (xx_gu fun C z2 h2 o2 => ?_)
    rw [nI_clamp (by omega)] at h2
    refine xx_vret dX9_trim_55 rfl ⟨rfl, by omega, ⟨f, _, _, (o2 _ (by omega)).trans ((o1 _ (by omega)).trans hf), (o2 _ (by omega)).trans h1, h2, fun r hr => ?_⟩, fun q a1 a2 => (o2 q a2).trans (o1 q a1)⟩
    by_cases e : r = a
    · subst e; rw [yy_un_s]
      have hv0 : v = 0 := by
        subst j41
        have : v.natAbs = 0 := m3.symm
        omega
      refine ⟨by rw [pk_us, hv0]; rfl, m, pk_us, m1, D, m4, m2, m3.symm⟩
    · rw [yy_un_n e]
      exact (hN r hr e).to (fun i hi => rfl) (pk_un e) (pk_un e)
