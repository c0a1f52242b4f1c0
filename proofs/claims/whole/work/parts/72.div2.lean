/-! ===== Divider: takeAway, putBack, guess ===== -/
theorem yy_lne0 {n : Nat} (h0 : 0 < n) (h : n < 2 ^ 63) : ¬ lN n = 0 := fun q => absurd ((pk_lEQ (b := 0) h (by decide)).mp (q.trans (by decide))) (by omega)
theorem lz_lo31' (z : Int) : (lz z &&& 2147483647).toInt32 = nI (z % 2147483648).toNat := lz_lo31 z
theorem yy_tl (z : Int) : (z % 2147483648).toNat < yB := by show _ < 2147483648; omega
/-- what is left of a window from which something was taken -/
theorem yy_tk {va z P w q V β : Int} (h0 : 0 ≤ va) (h1 : va < P) (hP : 0 < P) (hz1 : -β ≤ z) (hz2 : z < β) (hβ : 0 < β) (h : va + z * P = w - q * V) : (z < 0 ↔ w < q * V) ∧ va + (z % β) * P + q * V = w + (if w < q * V then P * β else 0) := by
  have k : z < 0 ↔ w < q * V := by
    constructor
    · intro h9
      have : z * P ≤ (-1) * P := Int.mul_le_mul_of_nonneg_right (by omega) (by omega)
      omega
    · intro h9
      apply Int.lt_of_not_ge
      intro h8
      have : 0 * P ≤ z * P := Int.mul_le_mul_of_nonneg_right h8 (by omega)
      omega
  refine ⟨k, ?_⟩
  by_cases e : z < 0
  · rw [if_pos (k.mp e)]
    have e1 : z % β = z + β := by
      have : z % β = (z + β) % β := by simp
      rw [this]
      exact Int.emod_eq_of_lt (by omega) (by omega)
    rw [e1, Int.add_mul, Int.mul_comm β P]
    omega
  · rw [if_neg (fun q => e (k.mpr q)), Int.emod_eq_of_lt (by omega) (by omega)]
    omega
theorem nI_ofl1 : nI 1 = 1 := by decide
theorem xx_mth1max : xx_mth RX1 71 Lib.Math.max.name Lib.Math.max.code 2 := ⟨wm_X1_71, wq_s_max, wq_z, wq_c_max⟩
set_option maxRecDepth 100000 in
theorem l_X1_ta {G : xx_G} {l : Launch} {A : xx_H} {b r y a sz dg : Nat} {s2 s3 s4 s5 : Value} {g f : Nat → Int32} {X Y : Nat → Nat} {Q : Option Value ⊕ String → xx_H → Prop} (hb : A.2 b = xx_o 1 [.ref r, .ref y, s2, s3, s4, s5]) (hr : A.2 r = xx_i 15 f) (hy : A.2 y = xx_i 15 g) (n1 : b ≠ r) (n2 : y ≠ r) (ha : a + sz < 15) (hX : ∀ i, i ≤ sz → X i < yB ∧ f (a + i) = nI (X i)) (hY : ∀ i, i < sz → Y i < yB ∧ g i = nI (Y i)) (hdg : dg < yB) (k : ∀ (B : xx_H) (f1 : Nat → Int32) (R : Nat → Nat) (c : Int), B.1 = A.1 → B.2 r = xx_i 15 f1 → (∀ j, j < sz → R j < yB ∧ f1 (a + j) = nI (R j)) → (∀ j, j < a ∨ a + sz ≤ j → f1 j = f j) → -2147483648 ≤ c → c ≤ 0 → ((yy_val yB R sz : Nat) : Int) + c * ((yB ^ sz : Nat) : Int) = ((yy_val yB X sz : Nat) : Int) - (dg : Int) * ((yy_val yB Y sz : Nat) : Int) → (∀ q, q ≠ r → B.2 q = A.2 q) → xx_X G l mX1_takeAway 0 0 0 68 [(0, .ref b), (3, .int (nI a)), (4, .int (nI sz)), (5, .long (lz c))] [] B Q) :
    ∀ (t i : Nat), i + t = sz → ∀ (B : xx_H) (f1 : Nat → Int32) (R : Nat → Nat) (c : Int), B.1 = A.1 → B.2 r = xx_i 15 f1 → (∀ j, j < i → R j < yB ∧ f1 (a + j) = nI (R j)) → (∀ j, j < a ∨ a + i ≤ j → f1 j = f j) → -2147483648 ≤ c → c ≤ 0 → ((yy_val yB R i : Nat) : Int) + c * ((yB ^ i : Nat) : Int) = ((yy_val yB X i : Nat) : Int) - (dg : Int) * ((yy_val yB Y i : Nat) : Int) → (∀ q, q ≠ r → B.2 q = A.2 q) → xx_X G l mX1_takeAway 0 0 0 6 [(0, .ref b), (1, .long (lN dg)), (3, .int (nI a)), (4, .int (nI sz)), (5, .long (lz c)), (7, .int (nI i))] [] B Q := by
  intro t
  induction t with
  | zero =>
    intro i hi B f1 R c hz hf1 hd ho hc1 hc2 hv hfr
    have : i = sz := by omega
    subst this
    refine xx_iload dX1_takeAway_6 rfl ?_
    refine xx_iload dX1_takeAway_8 rfl ?_
    refine xx_icmp_ge (tgt := 68) dX1_takeAway_10 (by decide) (fun j10 => ?_) (fun h => absurd (Int32.le_refl _) h)
    refine xx_less [0, 3, 4, 5] ?_
    refine xx_clv (lv2 := [(0, .ref b), (3, .int (nI a)), (4, .int (nI i)), (5, .long (lz c))]) rfl ?_
    exact k B f1 R c hz hf1 hd ho hc1 hc2 hv hfr
  | succ t ih =>
    intro i hi B f1 R c hz hf1 hd ho hc1 hc2 hv hfr
    have hb2 := (hfr b n1).trans hb
    have hy2 := (hfr y n2).trans hy
    obtain ⟨p1, q1⟩ := hX i (by omega)
    have p1 : X i < 2147483648 := p1
    have q1 : f1 (a + i) = nI (X i) := (ho (a + i) (by omega)).trans q1
    obtain ⟨p2, q2⟩ := hY i (by omega)
    have p2 : Y i < 2147483648 := p2
    have p3 : dg < 2147483648 := hdg
    have hpr : dg * Y i ≤ 2147483647 * 2147483647 := Nat.mul_le_mul (by omega) (by omega)
    obtain ⟨m, hm⟩ : ∃ m, m = dg * Y i := ⟨_, rfl⟩
    rw [← hm] at hpr
    refine xx_iload dX1_takeAway_6 rfl ?_
    refine xx_iload dX1_takeAway_8 rfl ?_
    refine xx_icmp_ge (tgt := 68) dX1_takeAway_10 (by decide) (fun h => absurd h (nI_ge (by omega) (by omega))) (fun j10 => ?_)
    refine xx_lload dX1_takeAway_13 rfl ?_
    refine xx_aload_n dX1_takeAway_15 rfl ?_
    refine xx_get xx_c1 dX1_takeAway_16 wf_X1_9 (j := 0) (by decide) hb2 rfl ?_
    refine xx_iload_n dX1_takeAway_19 rfl ?_
    refine xx_iload dX1_takeAway_20 rfl ?_
    refine xx_iadd dX1_takeAway_22 ?_
    refine xx_eqi (y := nI (a + i)) (nI_add a i) ?_
    refine xx_iald dX1_takeAway_23 hf1 (vp_in_nI (by omega) (by decide)) ?_
    refine xx_eqi (y := nI (X i)) (by rw [nI_clamp (by omega)]; exact q1) ?_
    refine xx_i2l dX1_takeAway_24 ?_
    refine xx_eql (y := lN (X i)) (nI_l (by omega)) ?_
    refine xx_lload_n dX1_takeAway_25 rfl ?_
    refine xx_aload_n dX1_takeAway_26 rfl ?_
    refine xx_get xx_c1 dX1_takeAway_27 wf_X1_15 (j := 1) (by decide) hb2 rfl ?_
    refine xx_iload dX1_takeAway_30 rfl ?_
    refine xx_iald dX1_takeAway_32 hy2 (vp_in_nI (by omega) (by decide)) ?_
    refine xx_eqi (y := nI (Y i)) (by rw [nI_clamp (by omega)]; exact q2) ?_
    refine xx_i2l dX1_takeAway_33 ?_
    refine xx_eql (y := lN (Y i)) (nI_l (by omega)) ?_
    refine xx_lmul dX1_takeAway_34 ?_
    refine xx_eql (y := lN m) ((lN_mul dg (Y i)).trans (congrArg lN (by omega))) ?_
    refine xx_lsub dX1_takeAway_35 ?_
    refine xx_ladd dX1_takeAway_36 ?_
    refine xx_eql (y := lz (c + ((X i : Int) - (m : Int)))) (by rw [lN_lz, lN_lz, lz_sub, lz_add]) ?_
    refine xx_lstore dX1_takeAway_37 (by decide) ?_
    refine xx_clv (lv2 := [(0, .ref b), (1, .long (lN dg)), (3, .int (nI a)), (4, .int (nI sz)), (5, .long (lz (c + ((X i : Int) - (m : Int))))), (7, .int (nI i))]) rfl ?_
    refine xx_aload_n dX1_takeAway_39 rfl ?_
    refine xx_get xx_c1 dX1_takeAway_40 wf_X1_9 (j := 0) (by decide) hb2 rfl ?_
    refine xx_iload_n dX1_takeAway_43 rfl ?_
    refine xx_iload dX1_takeAway_44 rfl ?_
    refine xx_iadd dX1_takeAway_46 ?_
    refine xx_eqi (y := nI (a + i)) (nI_add a i) ?_
    refine xx_lload dX1_takeAway_47 rfl ?_
    refine xx_ldc2 (v := 2147483647) dX1_takeAway_49 wk_X1_103 ?_
    refine xx_land dX1_takeAway_52 ?_
    refine xx_l2i dX1_takeAway_53 ?_
    refine xx_eqi (y := nI ((c + ((X i : Int) - (m : Int))) % 2147483648).toNat) (lz_lo31' _) ?_
    refine xx_iast dX1_takeAway_54 hf1 (vp_in_nI (by omega) (by decide)) (xx_gu fun C z1 h1 o1 => ?_)
    rw [nI_clamp (by omega)] at h1
    refine xx_lload dX1_takeAway_55 rfl ?_
    refine xx_bipush (v := 31) dX1_takeAway_57 (by decide) ?_
    refine xx_lshr dX1_takeAway_59 ?_
    refine xx_eql (y := lz ((c + ((X i : Int) - (m : Int))) / 2147483648)) (lz_hi31 (by omega) (by omega)) ?_
    refine xx_lstore dX1_takeAway_60 (by decide) ?_
    refine xx_clv (lv2 := [(0, .ref b), (1, .long (lN dg)), (3, .int (nI a)), (4, .int (nI sz)), (5, .long (lz ((c + ((X i : Int) - (m : Int))) / 2147483648))), (7, .int (nI i))]) rfl ?_
    refine xx_iinc (v := nI (i + 1)) dX1_takeAway_62 rfl (nI_1 i) (by decide) ?_
    refine xx_goto (tgt := 6) dX1_takeAway_65 (by decide) ?_
    refine xx_clv (lv2 := [(0, .ref b), (1, .long (lN dg)), (3, .int (nI a)), (4, .int (nI sz)), (5, .long (lz ((c + ((X i : Int) - (m : Int))) / 2147483648))), (7, .int (nI (i + 1)))]) rfl ?_
    refine ih (i + 1) (by omega) C (upd f1 (a + i) (nI ((c + ((X i : Int) - (m : Int))) % 2147483648).toNat)) (yy_ud R i ((c + ((X i : Int) - (m : Int))) % 2147483648).toNat) _ (by omega) h1 (fun j hj => ?_) (fun j hj => ?_) (by omega) (by omega) ?_ (fun q hq => (o1 q hq).trans (hfr q hq))
    · by_cases e : j = i
      · subst e; rw [pk_us, yy_ud_s]; exact ⟨yy_tl _, rfl⟩
      · rw [pk_un (by omega), yy_ud_n e]; exact hd j (by omega)
    · rw [pk_un (by omega)]; exact ho j (by omega)
    · rw [yy_ud_val, Nat.pow_succ]
      have h8 : ((((c + ((X i : Int) - (m : Int))) % 2147483648).toNat : Nat) : Int) + 2147483648 * ((c + ((X i : Int) - (m : Int))) / 2147483648) = c + ((X i : Int) - (m : Int)) := by rw [Int.toNat_of_nonneg (Int.emod_nonneg _ (by decide))]; exact Int.emod_add_mul_ediv _ _
      have h9 := yy_stz _ c ((yB ^ i : Nat) : Int) _ ((X i : Int) - (m : Int)) _ _ 2147483648 hv h8
      show _ = (((yy_val yB X i + X i * yB ^ i : Nat)) : Int) - (dg : Int) * ((yy_val yB Y i + Y i * yB ^ i : Nat) : Int)
      rw [hm] at h9 ⊢
      generalize (c + ((X i : Int) - ((dg * Y i : Nat) : Int))) % 2147483648 = r9 at h9 ⊢
      generalize (c + ((X i : Int) - ((dg * Y i : Nat) : Int))) / 2147483648 = r8 at h9 ⊢
      have h7 : ((2147483648 : Nat) : Int) = 2147483648 := rfl
      simp only [Int.natCast_add, Int.natCast_mul] at h9 ⊢
      show _ + _ * (_ * (2147483648 : Int)) = _
      rw [h9]
      generalize ((yB ^ i : Nat) : Int) = P; grind
set_option maxRecDepth 100000 in
theorem c_X1_takeAway {G : xx_G} {l : Launch} {A : xx_H} {b r y a sz dg : Nat} {s2 s3 s4 s5 : Value} {g f : Nat → Int32} {X Y : Nat → Nat} (hb : A.2 b = xx_o 1 [.ref r, .ref y, s2, s3, s4, s5]) (hr : A.2 r = xx_i 15 f) (hy : A.2 y = xx_i 15 g) (n1 : b ≠ r) (n2 : y ≠ r) (ha : a + sz < 15) (hX : ∀ i, i ≤ sz → X i < yB ∧ f (a + i) = nI (X i)) (hY : ∀ i, i < sz → Y i < yB ∧ g i = nI (Y i)) (hdg : dg < yB) : xx_X G l mX1_takeAway 0 0 0 0 (lv_args 0 [.ref b, .long (lN dg), .int (nI a), .int (nI sz)]) [] A (fun q B => q = .inl (some (.int (if yy_val yB X (sz + 1) < dg * yy_val yB Y sz then 1 else 0))) ∧ B.1 = A.1 ∧ (∃ f1 R, B.2 r = xx_i 15 f1 ∧ (∀ j, j ≤ sz → R j < yB ∧ f1 (a + j) = nI (R j)) ∧ (∀ j, j < a ∨ a + sz < j → f1 j = f j) ∧ yy_val yB R (sz + 1) + dg * yy_val yB Y sz = yy_val yB X (sz + 1) + (if yy_val yB X (sz + 1) < dg * yy_val yB Y sz then yB ^ (sz + 1) else 0)) ∧ ∀ q, q ≠ r → B.2 q = A.2 q) := by
  refine xx_clv (lv2 := [(0, .ref b), (1, .long (lN dg)), (3, .int (nI a)), (4, .int (nI sz))]) rfl ?_
  refine xx_lconst (v := 0) dX1_takeAway_0 (by decide) ?_
  refine xx_lstore dX1_takeAway_1 (by decide) ?_
  refine xx_clv (lv2 := [(0, .ref b), (1, .long (lN dg)), (3, .int (nI a)), (4, .int (nI sz)), (5, .long 0)]) rfl ?_
  refine xx_iconst (v := 0) dX1_takeAway_3 (by decide) ?_
  refine xx_istore dX1_takeAway_4 (by decide) ?_
  refine xx_clv (lv2 := [(0, .ref b), (1, .long (lN dg)), (3, .int (nI a)), (4, .int (nI sz)), (5, .long 0), (7, .int 0)]) rfl ?_
  refine xx_clv (lv2 := [(0, .ref b), (1, .long (lN dg)), (3, .int (nI a)), (4, .int (nI sz)), (5, .long (lz 0)), (7, .int (nI 0))]) rfl ?_
  refine l_X1_ta hb hr hy n1 n2 ha hX hY hdg (fun B f1 R c y1 y2 y3 y4 y5 y6 y7 y8 => ?_) sz 0 (by omega) A f (fun _ => 0) 0 rfl hr (fun j hj => absurd hj (Nat.not_lt_zero j)) (fun j _ => rfl) (by decide) (by decide) (by show (0 : Int) + 0 * _ = 0 - _ * 0; simp) (fun q _ => rfl)
  have hb2 := (y8 b n1).trans hb
  obtain ⟨p1, q1⟩ := hX sz (Nat.le_refl _)
  have p1 : X sz < 2147483648 := p1
  have q1 : f1 (a + sz) = nI (X sz) := (y4 (a + sz) (by omega)).trans q1
  refine xx_lload dX1_takeAway_68 rfl ?_
  refine xx_aload_n dX1_takeAway_70 rfl ?_
  refine xx_get xx_c1 dX1_takeAway_71 wf_X1_9 (j := 0) (by decide) hb2 rfl ?_
  refine xx_iload_n dX1_takeAway_74 rfl ?_
  refine xx_iload dX1_takeAway_75 rfl ?_
  refine xx_iadd dX1_takeAway_77 ?_
  refine xx_eqi (y := nI (a + sz)) (nI_add a sz) ?_
  refine xx_iald dX1_takeAway_78 y2 (vp_in_nI (by omega) (by decide)) ?_
  refine xx_eqi (y := nI (X sz)) (by rw [nI_clamp (by omega)]; exact q1) ?_
  refine xx_i2l dX1_takeAway_79 ?_
  refine xx_eql (y := lN (X sz)) (nI_l (by omega)) ?_
  refine xx_ladd dX1_takeAway_80 ?_
  refine xx_eql (y := lz (c + (X sz : Int))) (by rw [lN_lz, lz_add]) ?_
  refine xx_lstore dX1_takeAway_81 (by decide) ?_
  refine xx_clv (lv2 := [(0, .ref b), (3, .int (nI a)), (4, .int (nI sz)), (5, .long (lz (c + (X sz : Int))))]) rfl ?_
  refine xx_aload_n dX1_takeAway_83 rfl ?_
  refine xx_get xx_c1 dX1_takeAway_84 wf_X1_9 (j := 0) (by decide) hb2 rfl ?_
  refine xx_iload_n dX1_takeAway_87 rfl ?_
  refine xx_iload dX1_takeAway_88 rfl ?_
  refine xx_iadd dX1_takeAway_90 ?_
  refine xx_eqi (y := nI (a + sz)) (nI_add a sz) ?_
  refine xx_lload dX1_takeAway_91 rfl ?_
  refine xx_ldc2 (v := 2147483647) dX1_takeAway_93 wk_X1_103 ?_
  refine xx_land dX1_takeAway_96 ?_
  refine xx_l2i dX1_takeAway_97 ?_
  refine xx_eqi (y := nI ((c + (X sz : Int)) % 2147483648).toNat) (lz_lo31' _) ?_
  refine xx_iast dX1_takeAway_98 y2 (vp_in_nI (by omega) (by decide)) (xx_gu fun C z1 h1 o1 => ?_)
  rw [nI_clamp (by omega)] at h1
  have hlt := yy_val_lt (β := yB) (D := R) (n := sz) (fun i hi => (y3 i hi).1)
  have hP : 0 < yB ^ sz := Nat.pow_pos (by decide)
  have hv : ((yy_val yB R sz : Nat) : Int) + (c + (X sz : Int)) * ((yB ^ sz : Nat) : Int) = ((yy_val yB X (sz + 1) : Nat) : Int) - (dg : Int) * ((yy_val yB Y sz : Nat) : Int) := by
    show _ = ((yy_val yB X sz + X sz * yB ^ sz : Nat) : Int) - _
    rw [Int.add_mul, Int.natCast_add, Int.natCast_mul]; generalize ((yB ^ sz : Nat) : Int) = P at y7 ⊢; omega
  obtain ⟨t1, t2⟩ := yy_tk (β := 2147483648) (Int.natCast_nonneg _) (by exact_mod_cast hlt) (by exact_mod_cast hP) (by omega) (by omega) (by decide) hv
  have t3 : c + (X sz : Int) < 0 ↔ yy_val yB X (sz + 1) < dg * yy_val yB Y sz := by rw [t1]; exact_mod_cast Iff.rfl
  have hR : yy_val yB (yy_ud R sz ((c + (X sz : Int)) % 2147483648).toNat) (sz + 1) + dg * yy_val yB Y sz = yy_val yB X (sz + 1) + (if yy_val yB X (sz + 1) < dg * yy_val yB Y sz then yB ^ (sz + 1) else 0) := by
    rw [yy_ud_val]
    apply Int.ofNat.inj
    have e9 : ((((c + (X sz : Int)) % 2147483648).toNat : Nat) : Int) = (c + (X sz : Int)) % 2147483648 := Int.toNat_of_nonneg (Int.emod_nonneg _ (by decide))
    show (((yy_val yB R sz + ((c + (X sz : Int)) % 2147483648).toNat * yB ^ sz + dg * yy_val yB Y sz : Nat)) : Int) = _
    rw [Int.natCast_add, Int.natCast_add, Int.natCast_mul, Int.natCast_mul, e9, t2]
    by_cases e : yy_val yB X (sz + 1) < dg * yy_val yB Y sz
    · rw [if_pos (t1.mp (t3.mpr e)), if_pos e, Nat.pow_succ]; show _ = ((_ + _ * 2147483648 : Nat) : Int); rw [Int.natCast_add, Int.natCast_mul]; rfl
    · rw [if_neg (fun q => e (t3.mp (t1.mpr q))), if_neg e]; rfl
  refine xx_lload dX1_takeAway_99 rfl ?_
  refine xx_lconst (v := 0) dX1_takeAway_101 (by decide) ?_
  refine xx_lcmp dX1_takeAway_102 ?_
  refine xx_if_ge (tgt := 110) dX1_takeAway_103 (by decide) (fun j103 => ?_) (fun j103 => ?_)
  · refine xx_iconst (v := 0) dX1_takeAway_110 (by decide) ?_
    have j9 : ¬ c + (X sz : Int) < 0 := fun q => absurd ((lg_cmp_ge _ _).mp j103) (Int64.not_le.mpr ((lz_lt (by omega) (by omega) (by decide) (by decide)).mpr q))
    refine xx_zret dX1_takeAway_111 rfl rfl ⟨by rw [if_neg (fun q => j9 (t3.mpr q))], by omega, ⟨_, yy_ud R sz ((c + (X sz : Int)) % 2147483648).toNat, h1, fun j hj => ?_, fun j hj => ?_, hR⟩, fun q hq => (o1 q hq).trans (y8 q hq)⟩
    · by_cases e : j = sz
      · subst e; rw [pk_us, yy_ud_s]; exact ⟨yy_tl _, rfl⟩
      · rw [pk_un (by omega), yy_ud_n e]; exact y3 j (by omega)
    · rw [pk_un (by omega)]; exact y4 j (by omega)
  · refine xx_iconst (v := 1) dX1_takeAway_106 (by decide) ?_
    refine xx_goto (tgt := 111) dX1_takeAway_107 (by decide) ?_
    have j9 : c + (X sz : Int) < 0 := (lz_lt (a := c + (X sz : Int)) (b := 0) (by omega) (by omega) (by decide) (by decide)).mp (Int64.not_le.mp (fun q => j103 ((lg_cmp_ge _ _).mpr q)))
    refine xx_zret dX1_takeAway_111 rfl rfl ⟨by rw [if_pos (t3.mp j9)], by omega, ⟨_, yy_ud R sz ((c + (X sz : Int)) % 2147483648).toNat, h1, fun j hj => ?_, fun j hj => ?_, hR⟩, fun q hq => (o1 q hq).trans (y8 q hq)⟩
    · by_cases e : j = sz
      · subst e; rw [pk_us, yy_ud_s]; exact ⟨yy_tl _, rfl⟩
      · rw [pk_un (by omega), yy_ud_n e]; exact y3 j (by omega)
    · rw [pk_un (by omega)]; exact y4 j (by omega)
set_option maxRecDepth 100000 in
theorem l_X1_pb {G : xx_G} {l : Launch} {A : xx_H} {b r y a sz : Nat} {s2 s3 s4 s5 : Value} {g f : Nat → Int32} {X Y : Nat → Nat} {Q : Option Value ⊕ String → xx_H → Prop} (hb : A.2 b = xx_o 1 [.ref r, .ref y, s2, s3, s4, s5]) (hr : A.2 r = xx_i 15 f) (hy : A.2 y = xx_i 15 g) (n1 : b ≠ r) (n2 : y ≠ r) (ha : a + sz < 15) (hX : ∀ i, i ≤ sz → X i < yB ∧ f (a + i) = nI (X i)) (hY : ∀ i, i < sz → Y i < yB ∧ g i = nI (Y i)) (k : ∀ (B : xx_H) (f1 : Nat → Int32) (R : Nat → Nat) (c : Nat), B.1 = A.1 → B.2 r = xx_i 15 f1 → (∀ j, j < sz → R j < yB ∧ f1 (a + j) = nI (R j)) → (∀ j, j < a ∨ a + sz ≤ j → f1 j = f j) → c ≤ 1 → yy_val yB R sz + c * yB ^ sz = yy_val yB X sz + yy_val yB Y sz → (∀ q, q ≠ r → B.2 q = A.2 q) → xx_X G l mX1_putBack 0 0 0 59 [(0, .ref b), (1, .int (nI a)), (2, .int (nI sz)), (3, .long (lN c))] [] B Q) :
    ∀ (t i : Nat), i + t = sz → ∀ (B : xx_H) (f1 : Nat → Int32) (R : Nat → Nat) (c : Nat), B.1 = A.1 → B.2 r = xx_i 15 f1 → (∀ j, j < i → R j < yB ∧ f1 (a + j) = nI (R j)) → (∀ j, j < a ∨ a + i ≤ j → f1 j = f j) → c ≤ 1 → yy_val yB R i + c * yB ^ i = yy_val yB X i + yy_val yB Y i → (∀ q, q ≠ r → B.2 q = A.2 q) → xx_X G l mX1_putBack 0 0 0 5 [(0, .ref b), (1, .int (nI a)), (2, .int (nI sz)), (3, .long (lN c)), (5, .int (nI i))] [] B Q := by
  intro t
  induction t with
  | zero =>
    intro i hi B f1 R c hz hf1 hd ho hc hv hfr
    have : i = sz := by omega
    subst this
    refine xx_iload dX1_putBack_5 rfl ?_
    refine xx_iload_n dX1_putBack_7 rfl ?_
    refine xx_icmp_ge (tgt := 59) dX1_putBack_8 (by decide) (fun j8 => ?_) (fun h => absurd (Int32.le_refl _) h)
    refine xx_less [0, 1, 2, 3] ?_
    refine xx_clv (lv2 := [(0, .ref b), (1, .int (nI a)), (2, .int (nI i)), (3, .long (lN c))]) rfl ?_
    exact k B f1 R c hz hf1 hd ho hc hv hfr
  | succ t ih =>
    intro i hi B f1 R c hz hf1 hd ho hc hv hfr
    have hb2 := (hfr b n1).trans hb
    have hy2 := (hfr y n2).trans hy
    obtain ⟨p1, q1⟩ := hX i (by omega)
    have p1 : X i < 2147483648 := p1
    have q1 : f1 (a + i) = nI (X i) := (ho (a + i) (by omega)).trans q1
    obtain ⟨p2, q2⟩ := hY i (by omega)
    have p2 : Y i < 2147483648 := p2
    refine xx_iload dX1_putBack_5 rfl ?_
    refine xx_iload_n dX1_putBack_7 rfl ?_
    refine xx_icmp_ge (tgt := 59) dX1_putBack_8 (by decide) (fun h => absurd h (nI_ge (by omega) (by omega))) (fun j8 => ?_)
    refine xx_lload_n dX1_putBack_11 rfl ?_
    refine xx_aload_n dX1_putBack_12 rfl ?_
    refine xx_get xx_c1 dX1_putBack_13 wf_X1_9 (j := 0) (by decide) hb2 rfl ?_
    refine xx_iload_n dX1_putBack_16 rfl ?_
    refine xx_iload dX1_putBack_17 rfl ?_
    refine xx_iadd dX1_putBack_19 ?_
    refine xx_eqi (y := nI (a + i)) (nI_add a i) ?_
    refine xx_iald dX1_putBack_20 hf1 (vp_in_nI (by omega) (by decide)) ?_
    refine xx_eqi (y := nI (X i)) (by rw [nI_clamp (by omega)]; exact q1) ?_
    refine xx_i2l dX1_putBack_21 ?_
    refine xx_eql (y := lN (X i)) (nI_l (by omega)) ?_
    refine xx_aload_n dX1_putBack_22 rfl ?_
    refine xx_get xx_c1 dX1_putBack_23 wf_X1_15 (j := 1) (by decide) hb2 rfl ?_
    refine xx_iload dX1_putBack_26 rfl ?_
    refine xx_iald dX1_putBack_28 hy2 (vp_in_nI (by omega) (by decide)) ?_
    refine xx_eqi (y := nI (Y i)) (by rw [nI_clamp (by omega)]; exact q2) ?_
    refine xx_i2l dX1_putBack_29 ?_
    refine xx_eql (y := lN (Y i)) (nI_l (by omega)) ?_
    refine xx_ladd dX1_putBack_30 ?_
    refine xx_eql (y := lN (X i + (Y i))) (lN_add (X i) (Y i)) ?_
    refine xx_ladd dX1_putBack_31 ?_
    refine xx_eql (y := lN (c + (X i + (Y i)))) (lN_add c (X i + (Y i))) ?_
    refine xx_lstore_n dX1_putBack_32 (by decide) ?_
    refine xx_clv (lv2 := [(0, .ref b), (1, .int (nI a)), (2, .int (nI sz)), (3, .long (lN (c + (X i + (Y i))))), (5, .int (nI i))]) rfl ?_
    refine xx_aload_n dX1_putBack_33 rfl ?_
    refine xx_get xx_c1 dX1_putBack_34 wf_X1_9 (j := 0) (by decide) hb2 rfl ?_
    refine xx_iload_n dX1_putBack_37 rfl ?_
    refine xx_iload dX1_putBack_38 rfl ?_
    refine xx_iadd dX1_putBack_40 ?_
    refine xx_eqi (y := nI (a + i)) (nI_add a i) ?_
    refine xx_lload_n dX1_putBack_41 rfl ?_
    refine xx_ldc2 (v := 2147483647) dX1_putBack_42 wk_X1_103 ?_
    refine xx_land dX1_putBack_45 ?_
    refine xx_eql (y := lN ((c + (X i + (Y i))) % 2147483648)) (yy_and31 (by omega)) ?_
    refine xx_l2i dX1_putBack_46 ?_
    refine xx_eqi (y := nI ((c + (X i + (Y i))) % 2147483648)) (lN_i _) ?_
    refine xx_iast dX1_putBack_47 hf1 (vp_in_nI (by omega) (by decide)) (xx_gu fun C z1 h1 o1 => ?_)
    rw [nI_clamp (by omega)] at h1
    refine xx_lload_n dX1_putBack_48 rfl ?_
    refine xx_bipush (v := 31) dX1_putBack_49 (by decide) ?_
    refine xx_lshr dX1_putBack_51 ?_
    refine xx_eql (y := lN ((c + (X i + (Y i))) / 2147483648)) (hi31N (by omega)) ?_
    refine xx_lstore_n dX1_putBack_52 (by decide) ?_
    refine xx_clv (lv2 := [(0, .ref b), (1, .int (nI a)), (2, .int (nI sz)), (3, .long (lN ((c + (X i + (Y i))) / 2147483648))), (5, .int (nI i))]) rfl ?_
    refine xx_iinc (v := nI (i + 1)) dX1_putBack_53 rfl (nI_1 i) (by decide) ?_
    refine xx_goto (tgt := 5) dX1_putBack_56 (by decide) ?_
    refine xx_clv (lv2 := [(0, .ref b), (1, .int (nI a)), (2, .int (nI sz)), (3, .long (lN ((c + (X i + Y i)) / 2147483648))), (5, .int (nI (i + 1)))]) rfl ?_
    refine ih (i + 1) (by omega) C (upd f1 (a + i) (nI ((c + (X i + Y i)) % 2147483648))) (yy_ud R i ((c + (X i + Y i)) % 2147483648)) _ (by omega) h1 (fun j hj => ?_) (fun j hj => ?_) (by omega) ?_ (fun q hq => (o1 q hq).trans (hfr q hq))
    · by_cases e : j = i
      · subst e; rw [pk_us, yy_ud_s]; exact ⟨Nat.mod_lt _ (by decide), rfl⟩
      · rw [pk_un (by omega), yy_ud_n e]; exact hd j (by omega)
    · rw [pk_un (by omega)]; exact ho j (by omega)
    · rw [yy_ud_val, Nat.pow_succ]
      have h9 := yy_stp _ c (yB ^ i) _ (X i + Y i) ((c + (X i + Y i)) % 2147483648) ((c + (X i + Y i)) / 2147483648) 2147483648 hv (Nat.mod_add_div _ _)
      show _ + _ * (yB ^ i * 2147483648) = (yy_val yB X i + X i * yB ^ i) + (yy_val yB Y i + Y i * yB ^ i)
      rw [h9, Nat.add_mul]
      omega
set_option maxRecDepth 100000 in
theorem c_X1_putBack {G : xx_G} {l : Launch} {A : xx_H} {b r y a sz : Nat} {s2 s3 s4 s5 : Value} {g f : Nat → Int32} {X Y : Nat → Nat} (hb : A.2 b = xx_o 1 [.ref r, .ref y, s2, s3, s4, s5]) (hr : A.2 r = xx_i 15 f) (hy : A.2 y = xx_i 15 g) (n1 : b ≠ r) (n2 : y ≠ r) (ha : a + sz < 15) (hX : ∀ i, i ≤ sz → X i < yB ∧ f (a + i) = nI (X i)) (hY : ∀ i, i < sz → Y i < yB ∧ g i = nI (Y i)) : xx_X G l mX1_putBack 0 0 0 0 (lv_args 0 [.ref b, .int (nI a), .int (nI sz)]) [] A (fun q B => q = .inl none ∧ B.1 = A.1 ∧ (∃ f1 R, B.2 r = xx_i 15 f1 ∧ (∀ j, j ≤ sz → R j < yB ∧ f1 (a + j) = nI (R j)) ∧ (∀ j, j < a ∨ a + sz < j → f1 j = f j) ∧ yy_val yB R (sz + 1) = (yy_val yB X (sz + 1) + yy_val yB Y sz) % yB ^ (sz + 1)) ∧ ∀ q, q ≠ r → B.2 q = A.2 q) := by
  refine xx_clv (lv2 := [(0, .ref b), (1, .int (nI a)), (2, .int (nI sz))]) rfl ?_
  refine xx_lconst (v := 0) dX1_putBack_0 (by decide) ?_
  refine xx_lstore_n dX1_putBack_1 (by decide) ?_
  refine xx_clv (lv2 := [(0, .ref b), (1, .int (nI a)), (2, .int (nI sz)), (3, .long 0)]) rfl ?_
  refine xx_iconst (v := 0) dX1_putBack_2 (by decide) ?_
  refine xx_istore dX1_putBack_3 (by decide) ?_
  refine xx_clv (lv2 := [(0, .ref b), (1, .int (nI a)), (2, .int (nI sz)), (3, .long 0), (5, .int 0)]) rfl ?_
  refine xx_clv (lv2 := [(0, .ref b), (1, .int (nI a)), (2, .int (nI sz)), (3, .long (lN 0)), (5, .int (nI 0))]) rfl ?_
  refine l_X1_pb hb hr hy n1 n2 ha hX hY (fun B f1 R c y1 y2 y3 y4 y5 y7 y8 => ?_) sz 0 (by omega) A f (fun _ => 0) 0 rfl hr (fun j hj => absurd hj (Nat.not_lt_zero j)) (fun j _ => rfl) (by decide) (by show 0 + 0 * _ = 0 + 0; simp) (fun q _ => rfl)
  have hb2 := (y8 b n1).trans hb
  obtain ⟨p1, q1⟩ := hX sz (Nat.le_refl _)
  have p1 : X sz < 2147483648 := p1
  have q1 : f1 (a + sz) = nI (X sz) := (y4 (a + sz) (by omega)).trans q1
  refine xx_aload_n dX1_putBack_59 rfl ?_
  refine xx_get xx_c1 dX1_putBack_60 wf_X1_9 (j := 0) (by decide) hb2 rfl ?_
  refine xx_iload_n dX1_putBack_63 rfl ?_
  refine xx_iload_n dX1_putBack_64 rfl ?_
  refine xx_iadd dX1_putBack_65 ?_
  refine xx_eqi (y := nI (a + sz)) (nI_add a sz) ?_
  refine xx_aload_n dX1_putBack_66 rfl ?_
  refine xx_get xx_c1 dX1_putBack_67 wf_X1_9 (j := 0) (by decide) hb2 rfl ?_
  refine xx_iload_n dX1_putBack_70 rfl ?_
  refine xx_iload_n dX1_putBack_71 rfl ?_
  refine xx_iadd dX1_putBack_72 ?_
  refine xx_eqi (y := nI (a + sz)) (nI_add a sz) ?_
  refine xx_iald dX1_putBack_73 y2 (vp_in_nI (by omega) (by decide)) ?_
  refine xx_eqi (y := nI (X sz)) (by rw [nI_clamp (by omega)]; exact q1) ?_
  refine xx_i2l dX1_putBack_74 ?_
  refine xx_eql (y := lN (X sz)) (nI_l (by omega)) ?_
  refine xx_lload_n dX1_putBack_75 rfl ?_
  refine xx_ladd dX1_putBack_76 ?_
  refine xx_eql (y := lN (X sz + c)) (lN_add (X sz) c) ?_
  refine xx_ldc2 (v := 2147483647) dX1_putBack_77 wk_X1_103 ?_
  refine xx_land dX1_putBack_80 ?_
  refine xx_eql (y := lN ((X sz + c) % 2147483648)) (yy_and31 (by omega)) ?_
  refine xx_l2i dX1_putBack_81 ?_
  refine xx_eqi (y := nI ((X sz + c) % 2147483648)) (lN_i _) ?_
  refine xx_iast dX1_putBack_82 y2 (vp_in_nI (by omega) (by decide)) (xx_gu fun C z1 h1 o1 => ?_)
  rw [nI_clamp (by omega)] at h1
  refine xx_vret dX1_putBack_83 rfl ⟨rfl, by omega, ⟨_, yy_ud R sz ((X sz + c) % 2147483648), h1, fun j hj => ?_, fun j hj => ?_, ?_⟩, fun q hq => (o1 q hq).trans (y8 q hq)⟩
  · by_cases e : j = sz
    · subst e; rw [pk_us, yy_ud_s]; exact ⟨Nat.mod_lt _ (by decide), rfl⟩
    · rw [pk_un (by omega), yy_ud_n e]; exact y3 j (by omega)
  · rw [pk_un (by omega)]; exact y4 j (by omega)
  · have hlt := yy_val_lt (β := yB) (D := yy_ud R sz ((X sz + c) % 2147483648)) (n := sz + 1) (fun j hj => by
      by_cases e : j = sz
      · subst e; rw [yy_ud_s]; exact Nat.mod_lt _ (by decide)
      · rw [yy_ud_n e]; exact (y3 j (by omega)).1)
    have e1 : yy_val yB X (sz + 1) + yy_val yB Y sz = yy_val yB (yy_ud R sz ((X sz + c) % 2147483648)) (sz + 1) + yB ^ (sz + 1) * ((X sz + c) / 2147483648) := by
      rw [yy_ud_val, Nat.pow_succ]
      show yy_val yB X sz + X sz * yB ^ sz + _ = _ + yB ^ sz * 2147483648 * _
      have e2 := Nat.mod_add_div (X sz + c) 2147483648
      generalize (X sz + c) % 2147483648 = r9 at e2 ⊢
      generalize (X sz + c) / 2147483648 = r8 at e2 ⊢
      generalize yB ^ sz = P at y7 ⊢
      grind
    rw [e1, Nat.add_mul_mod_self_left, Nat.mod_eq_of_lt hlt]
set_option maxRecDepth 100000 in
theorem l_X1_gu {G : xx_G} {l : Launch} {A : xx_H} {b r y a sz : Nat} {s2 s3 s4 s5 : Value} {g f : Nat → Int32} {X Y : Nat → Nat} {t : Nat} (hb : A.2 b = xx_o 1 [.ref r, .ref y, s2, s3, s4, s5]) (hr : A.2 r = xx_i 15 f) (hy : A.2 y = xx_i 15 g) (n1 : b ≠ r) (n2 : y ≠ r) (ha : a + sz < 15) (hX : ∀ i, i ≤ sz → X i < yB ∧ f (a + i) = nI (X i)) (hY : ∀ i, i < sz → Y i < yB ∧ g i = nI (Y i)) (hs : 2 ≤ sz) (hn : yB ≤ 2 * Y (sz - 1)) {Q : Option Value ⊕ String → xx_H → Prop} :
    ∀ (n i : Nat), i + n = 3 → ∀ (d e : Nat), d < 2 ^ 62 → e < 2 ^ 40 + i * 2 ^ 40 → Q (.inl (some (.long (lN (yy_gr yB (Y (sz - 1)) (Y (sz - 2)) (X (sz - 2)) n (d, e)).1)))) A → xx_X G l mX1_guess 1 0 0 55 [(0, .ref b), (1, .int (nI a)), (2, .int (nI sz)), (3, .long (lN (Y (sz - 1)))), (5, .long (lN t)), (7, .long (lN d)), (9, .long (lN e)), (11, .int (nI i))] [] A Q := by
  intro n
  induction n with
  | zero =>
    intro i hi d e hd he hq
    have : i = 3 := by omega
    subst this
    refine xx_iload dX1_guess_55 rfl ?_
    refine xx_iconst (v := 3) dX1_guess_57 (by decide) ?_
    refine xx_icmp_ge (tgt := 130) dX1_guess_58 (by decide) (fun j58 => ?_) (fun h => absurd (by decide) h)
    refine xx_lload dX1_guess_130 rfl ?_
    exact xx_lret dX1_guess_132 rfl hq
  | succ n ih =>
    intro i hi d e hd he hq
    have hsz : sz - 1 < sz ∧ sz - 2 < sz ∧ sz - 2 ≤ sz ∧ a + sz - 2 = a + (sz - 2) := by omega
    obtain ⟨p1, q1⟩ := hX (sz - 2) hsz.2.2.1
    have p1 : X (sz - 2) < 2147483648 := p1
    obtain ⟨p2, q2⟩ := hY (sz - 2) hsz.2.1
    have p2 : Y (sz - 2) < 2147483648 := p2
    obtain ⟨p3, _⟩ := hY (sz - 1) hsz.1
    have p3 : Y (sz - 1) < 2147483648 := p3
    have hi3 : i ≤ 2 := by omega
    rw [yy_gr] at hq
    refine xx_iload dX1_guess_55 rfl ?_
    refine xx_iconst (v := 3) dX1_guess_57 (by decide) ?_
    refine xx_icmp_ge (tgt := 130) dX1_guess_58 (by decide) (fun h => absurd h (nI_ge (a := i) (b := 3) (by omega) (by decide))) (fun j58 => ?_)
    refine xx_lload dX1_guess_61 rfl ?_
    refine xx_ldc2 (v := 2147483647) dX1_guess_63 wk_X1_103 ?_
    refine xx_lcmp dX1_guess_66 ?_
    refine xx_if_gt (tgt := 130) dX1_guess_67 (by decide) (fun j67 => ?_) (fun j67 => ?_)
    · have j67 : 2147483647 < e := (pk_lLT (a := 2147483647) (b := e) (by omega) (by omega)).mp ((lg_cmp_gt _ _).mp j67)
      refine xx_lload dX1_guess_130 rfl ?_
      rw [if_neg (by show ¬ e < 2147483648; omega)] at hq
      exact xx_lret dX1_guess_132 rfl hq
    · have j67 : ¬ 2147483647 < e := fun q => j67 ((lg_cmp_gt _ _).mpr ((pk_lLT (a := 2147483647) (b := e) (by omega) (by omega)).mpr q))
      refine xx_lload dX1_guess_70 rfl ?_
      refine xx_ldc2 (v := 2147483647) dX1_guess_72 wk_X1_103 ?_
      refine xx_lcmp dX1_guess_75 ?_
      refine xx_if_gt (tgt := 112) dX1_guess_76 (by decide) (fun j76 => ?_) (fun j76 => ?_)
      · have j76 : 2147483647 < d := (pk_lLT (a := 2147483647) (b := d) (by omega) (by omega)).mp ((lg_cmp_gt _ _).mp j76)
        refine xx_lload dX1_guess_112 rfl ?_
        refine xx_lconst (v := 1) dX1_guess_114 (by decide) ?_
        have hd0 : 1 ≤ d := by omega
        refine xx_lsub dX1_guess_115 ?_
        refine xx_eql (y := lN (d - 1)) (lN_sub (a := d) (b := 1) (by omega)) ?_
        refine xx_lstore dX1_guess_116 (by decide) ?_
        refine xx_clv (lv2 := [(0, .ref b), (1, .int (nI a)), (2, .int (nI sz)), (3, .long (lN (Y (sz - 1)))), (5, .long (lN t)), (7, .long (lN (d - 1))), (9, .long (lN e)), (11, .int (nI i))]) rfl ?_
        refine xx_lload dX1_guess_118 rfl ?_
        refine xx_lload_n dX1_guess_120 rfl ?_
        refine xx_ladd dX1_guess_121 ?_
        refine xx_eql (y := lN (e + (Y (sz - 1)))) (lN_add e (Y (sz - 1))) ?_
        refine xx_lstore dX1_guess_122 (by decide) ?_
        refine xx_clv (lv2 := [(0, .ref b), (1, .int (nI a)), (2, .int (nI sz)), (3, .long (lN (Y (sz - 1)))), (5, .long (lN t)), (7, .long (lN (d - 1))), (9, .long (lN (e + (Y (sz - 1))))), (11, .int (nI i))]) rfl ?_
        rw [if_pos (by show e < 2147483648; omega)] at hq
        rw [if_pos (Or.inl (by show 2147483648 ≤ d; omega))] at hq
        refine xx_iinc (v := nI (i + 1)) dX1_guess_124 rfl (nI_1 i) (by decide) ?_
        refine xx_goto (tgt := 55) dX1_guess_127 (by decide) ?_
        refine xx_clv (lv2 := [(0, .ref b), (1, .int (nI a)), (2, .int (nI sz)), (3, .long (lN (Y (sz - 1)))), (5, .long (lN t)), (7, .long (lN (d - 1))), (9, .long (lN (e + Y (sz - 1)))), (11, .int (nI (i + 1)))]) rfl ?_
        have he9 : (e + Y (sz - 1)) < 2 ^ 40 + (i + 1) * 2 ^ 40 := by omega
        exact ih (i + 1) (by omega) (d - 1) (e + Y (sz - 1)) (by omega) he9 hq
      · have j76 : ¬ 2147483647 < d := fun q => j76 ((lg_cmp_gt _ _).mpr ((pk_lLT (a := 2147483647) (b := d) (by omega) (by omega)).mpr q))
        refine xx_lload dX1_guess_79 rfl ?_
        refine xx_aload_n dX1_guess_81 rfl ?_
        refine xx_get xx_c1 dX1_guess_82 wf_X1_15 (j := 1) (by decide) hb rfl ?_
        refine xx_iload_n dX1_guess_85 rfl ?_
        refine xx_iconst (v := 2) dX1_guess_86 (by decide) ?_
        refine xx_isub dX1_guess_87 ?_
        refine xx_eqi (y := nI (sz - 2)) (pk_sub (a := sz) (b := 2) (by omega)) ?_
        have hpr : d * Y (sz - 2) ≤ 2147483647 * 2147483647 := Nat.mul_le_mul (by omega) (by omega)
        have hde : d * Y (sz - 2) = Y (sz - 2) * d := Nat.mul_comm _ _
        refine xx_iald dX1_guess_88 hy (vp_in_nI (by omega) (by decide)) ?_
        refine xx_eqi (y := nI (Y (sz - 2))) (by rw [nI_clamp (by omega)]; exact q2) ?_
        refine xx_i2l dX1_guess_89 ?_
        refine xx_eql (y := lN (Y (sz - 2))) (nI_l (by omega)) ?_
        refine xx_lmul dX1_guess_90 ?_
        refine xx_eql (y := lN (d * (Y (sz - 2)))) (lN_mul d (Y (sz - 2))) ?_
        refine xx_lload dX1_guess_91 rfl ?_
        refine xx_bipush (v := 31) dX1_guess_93 (by decide) ?_
        refine xx_lshl dX1_guess_95 ?_
        refine xx_eql (y := lN (e * 2 ^ 31)) (wb_shl e (k := 31) (by omega)) ?_
        refine xx_aload_n dX1_guess_96 rfl ?_
        refine xx_get xx_c1 dX1_guess_97 wf_X1_9 (j := 0) (by decide) hb rfl ?_
        refine xx_iload_n dX1_guess_100 rfl ?_
        refine xx_iload_n dX1_guess_101 rfl ?_
        refine xx_iadd dX1_guess_102 ?_
        refine xx_eqi (y := nI (a + sz)) (nI_add a sz) ?_
        refine xx_iconst (v := 2) dX1_guess_103 (by decide) ?_
        refine xx_isub dX1_guess_104 ?_
        refine xx_eqi (y := nI ((a + sz) - 2)) (pk_sub (a := a + sz) (b := 2) (by omega)) ?_
        refine xx_eqi (y := nI (a + (sz - 2))) (by rw [hsz.2.2.2]) ?_
        refine xx_iald dX1_guess_105 hr (vp_in_nI (by omega) (by decide)) ?_
        refine xx_eqi (y := nI (X (sz - 2))) (by rw [nI_clamp (by omega)]; exact q1) ?_
        refine xx_i2l dX1_guess_106 ?_
        refine xx_eql (y := lN (X (sz - 2))) (nI_l (by omega)) ?_
        refine xx_lor dX1_guess_107 ?_
        refine xx_eql (y := lN (e * 2 ^ 31 + X (sz - 2))) (yy_lor2 (by omega) (by omega)) ?_
        refine xx_lcmp dX1_guess_108 ?_
        refine xx_if_le (tgt := 124) dX1_guess_109 (by decide) (fun j109 => ?_) (fun j109 => ?_)
        · have j109 : d * (Y (sz - 2)) ≤ e * 2 ^ 31 + X (sz - 2) := (pk_lLE (a := d * (Y (sz - 2))) (b := e * 2 ^ 31 + X (sz - 2)) (by omega) (by omega)).mp ((lg_cmp_le _ _).mp j109)
          rw [if_pos (by show e < 2147483648; omega)] at hq
          rw [if_neg (fun hh => hh.elim (fun h => absurd h (by show ¬ 2147483648 ≤ d; omega)) (fun h => absurd h (by show ¬ e * 2147483648 + X (sz - 2) < d * Y (sz - 2); omega)))] at hq
          refine xx_iinc (v := nI (i + 1)) dX1_guess_124 rfl (nI_1 i) (by decide) ?_
          refine xx_goto (tgt := 55) dX1_guess_127 (by decide) ?_
          refine xx_clv (lv2 := [(0, .ref b), (1, .int (nI a)), (2, .int (nI sz)), (3, .long (lN (Y (sz - 1)))), (5, .long (lN t)), (7, .long (lN d)), (9, .long (lN e)), (11, .int (nI (i + 1)))]) rfl ?_
          have q9 : e < 2147483648 := by omega
          have he9 : e < 2 ^ 40 + (i + 1) * 2 ^ 40 := Nat.lt_of_lt_of_le q9 (Nat.le_trans (by decide) (Nat.le_add_right _ _))
          exact ih (i + 1) (by omega) d e (by omega) he9 hq
        · have j109 : ¬ d * (Y (sz - 2)) ≤ e * 2 ^ 31 + X (sz - 2) := fun q => j109 ((lg_cmp_le _ _).mpr ((pk_lLE (a := d * (Y (sz - 2))) (b := e * 2 ^ 31 + X (sz - 2)) (by omega) (by omega)).mpr q))
          refine xx_lload dX1_guess_112 rfl ?_
          refine xx_lconst (v := 1) dX1_guess_114 (by decide) ?_
          have hd0 : 1 ≤ d := by apply Nat.pos_of_ne_zero; intro q; rw [q, Nat.zero_mul] at j109; omega
          refine xx_lsub dX1_guess_115 ?_
          refine xx_eql (y := lN (d - 1)) (lN_sub (a := d) (b := 1) (by omega)) ?_
          refine xx_lstore dX1_guess_116 (by decide) ?_
          refine xx_clv (lv2 := [(0, .ref b), (1, .int (nI a)), (2, .int (nI sz)), (3, .long (lN (Y (sz - 1)))), (5, .long (lN t)), (7, .long (lN (d - 1))), (9, .long (lN e)), (11, .int (nI i))]) rfl ?_
          refine xx_lload dX1_guess_118 rfl ?_
          refine xx_lload_n dX1_guess_120 rfl ?_
          refine xx_ladd dX1_guess_121 ?_
          refine xx_eql (y := lN (e + (Y (sz - 1)))) (lN_add e (Y (sz - 1))) ?_
          refine xx_lstore dX1_guess_122 (by decide) ?_
          refine xx_clv (lv2 := [(0, .ref b), (1, .int (nI a)), (2, .int (nI sz)), (3, .long (lN (Y (sz - 1)))), (5, .long (lN t)), (7, .long (lN (d - 1))), (9, .long (lN (e + (Y (sz - 1))))), (11, .int (nI i))]) rfl ?_
          rw [if_pos (by show e < 2147483648; omega)] at hq
          rw [if_pos (Or.inr (by show e * 2147483648 + X (sz - 2) < d * Y (sz - 2); omega))] at hq
          refine xx_iinc (v := nI (i + 1)) dX1_guess_124 rfl (nI_1 i) (by decide) ?_
          refine xx_goto (tgt := 55) dX1_guess_127 (by decide) ?_
          refine xx_clv (lv2 := [(0, .ref b), (1, .int (nI a)), (2, .int (nI sz)), (3, .long (lN (Y (sz - 1)))), (5, .long (lN t)), (7, .long (lN (d - 1))), (9, .long (lN (e + Y (sz - 1)))), (11, .int (nI (i + 1)))]) rfl ?_
          have he9 : (e + Y (sz - 1)) < 2 ^ 40 + (i + 1) * 2 ^ 40 := by omega
          exact ih (i + 1) (by omega) (d - 1) (e + Y (sz - 1)) (by omega) he9 hq
set_option maxRecDepth 100000 in
theorem c_X1_guess {G : xx_G} {l : Launch} {A : xx_H} {b r y a sz : Nat} {s2 s3 s4 s5 : Value} {g f : Nat → Int32} {X Y : Nat → Nat} (hb : A.2 b = xx_o 1 [.ref r, .ref y, s2, s3, s4, s5]) (hr : A.2 r = xx_i 15 f) (hy : A.2 y = xx_i 15 g) (n1 : b ≠ r) (n2 : y ≠ r) (ha : a + sz < 15) (hX : ∀ i, i ≤ sz → X i < yB ∧ f (a + i) = nI (X i)) (hY : ∀ i, i < sz → Y i < yB ∧ g i = nI (Y i)) (hs : 2 ≤ sz) (hn : yB ≤ 2 * Y (sz - 1)) : xx_X G l mX1_guess 1 0 0 0 (lv_args 0 [.ref b, .int (nI a), .int (nI sz)]) [] A (fun q B => q = .inl (some (.long (lN (yy_gr yB (Y (sz - 1)) (Y (sz - 2)) (X (sz - 2)) 3 ((X sz * yB + X (sz - 1)) / Y (sz - 1), (X sz * yB + X (sz - 1)) % Y (sz - 1))).1))) ∧ B = A) := by
  have hsz : sz - 1 < sz ∧ sz - 2 < sz ∧ sz - 1 ≤ sz ∧ a + sz - 1 = a + (sz - 1) := by omega
  obtain ⟨p1, q1⟩ := hX (sz - 1) hsz.2.2.1
  have p1 : X (sz - 1) < 2147483648 := p1
  obtain ⟨p2, q2⟩ := hY (sz - 1) hsz.1
  have p2 : Y (sz - 1) < 2147483648 := p2
  obtain ⟨p3, q3⟩ := hX sz (Nat.le_refl _)
  have p3 : X sz < 2147483648 := p3
  have hn2 : 2147483648 ≤ 2 * Y (sz - 1) := hn
  have hdv : (X sz * 2 ^ 31 + X (sz - 1)) / Y (sz - 1) < 2 ^ 62 := Nat.lt_of_le_of_lt (Nat.div_le_self _ _) (by omega)
  have hmd : (X sz * 2 ^ 31 + X (sz - 1)) % Y (sz - 1) < Y (sz - 1) := Nat.mod_lt _ (by omega)
  refine xx_clv (lv2 := [(0, .ref b), (1, .int (nI a)), (2, .int (nI sz))]) rfl ?_
  refine xx_iconst (v := 1) dX1_guess_0 (by decide) ?_
  refine xx_aload_n dX1_guess_1 rfl ?_
  refine xx_get xx_c1 dX1_guess_2 wf_X1_15 (j := 1) (by decide) hb rfl ?_
  refine xx_iload_n dX1_guess_5 rfl ?_
  refine xx_iconst (v := 1) dX1_guess_6 (by decide) ?_
  refine xx_isub dX1_guess_7 ?_
  refine xx_eqi (y := nI (sz - 1)) (pk_sub (a := sz) (b := 1) (by omega)) ?_
  refine xx_iald dX1_guess_8 hy (vp_in_nI (by omega) (by decide)) ?_
  refine xx_eqi (y := nI (Y (sz - 1))) (by rw [nI_clamp (by omega)]; exact q2) ?_
  refine xx_mmax dX1_guess_9 xx_mth1max (by decide) (by decide) ?_
  refine xx_eqi (y := nI (Y (sz - 1))) (by rw [← nI_ofl1, nI_max (by decide) (by omega)]; unfold yy_max; congr 1; split <;> omega) ?_
  refine xx_i2l dX1_guess_12 ?_
  refine xx_eql (y := lN (Y (sz - 1))) (nI_l (by omega)) ?_
  refine xx_lstore_n dX1_guess_13 (by decide) ?_
  refine xx_clv (lv2 := [(0, .ref b), (1, .int (nI a)), (2, .int (nI sz)), (3, .long (lN (Y (sz - 1))))]) rfl ?_
  refine xx_aload_n dX1_guess_14 rfl ?_
  refine xx_get xx_c1 dX1_guess_15 wf_X1_9 (j := 0) (by decide) hb rfl ?_
  refine xx_iload_n dX1_guess_18 rfl ?_
  refine xx_iload_n dX1_guess_19 rfl ?_
  refine xx_iadd dX1_guess_20 ?_
  refine xx_eqi (y := nI (a + sz)) (nI_add a sz) ?_
  refine xx_iald dX1_guess_21 hr (vp_in_nI (by omega) (by decide)) ?_
  refine xx_eqi (y := nI (X sz)) (by rw [nI_clamp (by omega)]; exact q3) ?_
  refine xx_i2l dX1_guess_22 ?_
  refine xx_eql (y := lN (X sz)) (nI_l (by omega)) ?_
  refine xx_bipush (v := 31) dX1_guess_23 (by decide) ?_
  refine xx_lshl dX1_guess_25 ?_
  refine xx_eql (y := lN ((X sz) * 2 ^ 31)) (wb_shl (X sz) (k := 31) (by omega)) ?_
  refine xx_aload_n dX1_guess_26 rfl ?_
  refine xx_get xx_c1 dX1_guess_27 wf_X1_9 (j := 0) (by decide) hb rfl ?_
  refine xx_iload_n dX1_guess_30 rfl ?_
  refine xx_iload_n dX1_guess_31 rfl ?_
  refine xx_iadd dX1_guess_32 ?_
  refine xx_eqi (y := nI (a + sz)) (nI_add a sz) ?_
  refine xx_iconst (v := 1) dX1_guess_33 (by decide) ?_
  refine xx_isub dX1_guess_34 ?_
  refine xx_eqi (y := nI ((a + sz) - 1)) (pk_sub (a := a + sz) (b := 1) (by omega)) ?_
  refine xx_eqi (y := nI (a + (sz - 1))) (by rw [hsz.2.2.2]) ?_
  refine xx_iald dX1_guess_35 hr (vp_in_nI (by omega) (by decide)) ?_
  refine xx_eqi (y := nI (X (sz - 1))) (by rw [nI_clamp (by omega)]; exact q1) ?_
  refine xx_i2l dX1_guess_36 ?_
  refine xx_eql (y := lN (X (sz - 1))) (nI_l (by omega)) ?_
  refine xx_lor dX1_guess_37 ?_
  refine xx_eql (y := lN (X sz * 2 ^ 31 + X (sz - 1))) (yy_lor2 (by omega) (by omega)) ?_
  refine xx_lstore dX1_guess_38 (by decide) ?_
  refine xx_clv (lv2 := [(0, .ref b), (1, .int (nI a)), (2, .int (nI sz)), (3, .long (lN (Y (sz - 1)))), (5, .long (lN (X sz * 2 ^ 31 + X (sz - 1))))]) rfl ?_
  refine xx_lload dX1_guess_40 rfl ?_
  refine xx_lload_n dX1_guess_42 rfl ?_
  refine xx_ldiv dX1_guess_43 (yy_lne0 (n := Y (sz - 1)) (by omega) (by omega)) ?_
  refine xx_eql (y := lN ((X sz * 2 ^ 31 + X (sz - 1)) / (Y (sz - 1)))) (pk_lDiv (by omega) (by omega) (by omega)) ?_
  refine xx_lstore dX1_guess_44 (by decide) ?_
  refine xx_clv (lv2 := [(0, .ref b), (1, .int (nI a)), (2, .int (nI sz)), (3, .long (lN (Y (sz - 1)))), (5, .long (lN (X sz * 2 ^ 31 + X (sz - 1)))), (7, .long (lN ((X sz * 2 ^ 31 + X (sz - 1)) / (Y (sz - 1)))))]) rfl ?_
  refine xx_lload dX1_guess_46 rfl ?_
  refine xx_lload_n dX1_guess_48 rfl ?_
  refine xx_lrem dX1_guess_49 (yy_lne0 (n := Y (sz - 1)) (by omega) (by omega)) ?_
  refine xx_eql (y := lN ((X sz * 2 ^ 31 + X (sz - 1)) % (Y (sz - 1)))) (pk_lRem (by omega) (by omega) (by omega)) ?_
  refine xx_lstore dX1_guess_50 (by decide) ?_
  refine xx_clv (lv2 := [(0, .ref b), (1, .int (nI a)), (2, .int (nI sz)), (3, .long (lN (Y (sz - 1)))), (5, .long (lN (X sz * 2 ^ 31 + X (sz - 1)))), (7, .long (lN ((X sz * 2 ^ 31 + X (sz - 1)) / (Y (sz - 1))))), (9, .long (lN ((X sz * 2 ^ 31 + X (sz - 1)) % (Y (sz - 1)))))]) rfl ?_
  refine xx_iconst (v := 0) dX1_guess_52 (by decide) ?_
  refine xx_istore dX1_guess_53 (by decide) ?_
  refine xx_clv (lv2 := [(0, .ref b), (1, .int (nI a)), (2, .int (nI sz)), (3, .long (lN (Y (sz - 1)))), (5, .long (lN (X sz * 2 ^ 31 + X (sz - 1)))), (7, .long (lN ((X sz * 2 ^ 31 + X (sz - 1)) / (Y (sz - 1))))), (9, .long (lN ((X sz * 2 ^ 31 + X (sz - 1)) % (Y (sz - 1))))), (11, .int 0)]) rfl ?_
  refine xx_clv (lv2 := [(0, .ref b), (1, .int (nI a)), (2, .int (nI sz)), (3, .long (lN (Y (sz - 1)))), (5, .long (lN (X sz * 2 ^ 31 + X (sz - 1)))), (7, .long (lN ((X sz * 2 ^ 31 + X (sz - 1)) / Y (sz - 1)))), (9, .long (lN ((X sz * 2 ^ 31 + X (sz - 1)) % Y (sz - 1)))), (11, .int (nI 0))]) rfl ?_
  exact l_X1_gu hb hr hy n1 n2 ha hX hY hs hn 3 0 rfl _ _ hdv (by omega) ⟨rfl, rfl⟩
