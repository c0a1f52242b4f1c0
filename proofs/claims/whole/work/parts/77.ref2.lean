/-! ===== the reference's numbers: compareSizes, compare, add ===== -/
theorem yy_vcmp {β : Nat} {D E : Nat → Nat} {i : Nat} : ∀ {n : Nat}, i < n → (∀ j, j ≤ i → D j < β) → (∀ j, i < j → j < n → D j = E j) → D i < E i → yy_val β D n < yy_val β E n
  | 0, h, _, _, _ => absurd h (Nat.not_lt_zero i)
  | n + 1, h, hd, he, hl => by
    show yy_val β D n + D n * β ^ n < yy_val β E n + E n * β ^ n
    by_cases e : i = n
    · subst e
      have h1 := yy_val_lt (β := β) (D := D) (n := i) (fun j hj => hd j (by omega))
      have h3 : (D i + 1) * β ^ i ≤ E i * β ^ i := Nat.mul_le_mul_right _ hl
      rw [Nat.add_mul, Nat.one_mul] at h3
      omega
    · have := yy_vcmp (n := n) (by omega) hd (fun j h1 h2 => he j h1 (by omega)) hl
      rw [he n (by omega) (by omega)]
      omega
theorem yy_dz0 {x y : Nat} (hx : x < 65536) (hy : y < 65536) : nI x - nI y = 0 ↔ x = y := by
  have e := pk_sub_toInt (a := x) (b := y) (by omega) (by omega)
  constructor
  · intro h
    rw [h] at e
    have : (0 : Int32).toInt = 0 := by decide
    omega
  · intro h
    apply Int32.toInt_inj.mp
    rw [e]
    have : (0 : Int32).toInt = 0 := by decide
    omega
theorem yy_dz1 {x y : Nat} (hx : x < 65536) (hy : y < 65536) : 0 ≤ nI x - nI y ↔ y ≤ x := by
  have e := pk_sub_toInt (a := x) (b := y) (by omega) (by omega)
  rw [Int32.le_iff_toInt_le, e]
  have : (0 : Int32).toInt = 0 := by decide
  omega
theorem yy_cmp_lt {a b : Nat} : yy_cmp a b < 0 ↔ a < b := by
  unfold yy_cmp
  by_cases h : a < b
  · rw [if_pos h]; exact ⟨fun _ => h, fun _ => by decide⟩
  · rw [if_neg h]
    refine ⟨fun q => absurd q ?_, fun q => absurd q h⟩
    split <;> decide
/-- the longer number is the larger -/
theorem yy_l16 {D E : Nat → Nat} {la lb : Nat} (hD : ∀ i, i < la → D i < 65536) (hE : 0 < lb → E (lb - 1) ≠ 0) (h : la < lb) : yy_val 65536 D la < yy_val 65536 E lb := by
  have a := yy_val_lt (β := 65536) (D := D) (n := la) hD
  obtain ⟨k, rfl⟩ : ∃ k, lb = k + 1 := ⟨lb - 1, by omega⟩
  have b := yy_val_top (β := 65536) (D := E) (n := k) (hE (by omega))
  have c : 65536 ^ la ≤ 65536 ^ k := Nat.pow_le_pow_right (by decide) (by omega)
  omega
theorem yy_bstep {R Y X cc c2 P r y x : Nat} (h : R + Y = X + cc * P) (hr : r + y + cc = x + 65536 * c2) : R + r * P + (Y + y * P) = X + x * P + c2 * (P * 65536) := by
  have e : (r + y + cc) * P = (x + 65536 * c2) * P := by rw [hr]
  grind
theorem yy_l39 {D : Nat → Nat} {len : Nat} (h : 0 < len → D (len - 1) ≠ 0) (hb : yy_val 65536 D len < 65536 ^ 39) : len ≤ 39 := by
  apply Nat.le_of_not_lt
  intro q
  obtain ⟨k, rfl⟩ : ∃ k, len = k + 1 := ⟨len - 1, by omega⟩
  have a := yy_val_top (β := 65536) (D := D) (n := k) (h (by omega))
  have b : 65536 ^ 39 ≤ 65536 ^ k := Nat.pow_le_pow_right (by decide) (by omega)
  omega
set_option maxRecDepth 100000 in
theorem l_X9_cs {G : xx_G} {l : Launch} {A : xx_H} {b : Nat} {u0 : Value} {us : List Value} {x y len : Nat} {f : Nat → Int32} {X Y : Nat → Nat} {Q : Option Value ⊕ String → xx_H → Prop} (hb : A.2 b = xx_o 9 (u0 :: .ref (b + 1) :: .ref (b + 2) :: .ref (b + 3) :: us)) (hf : A.2 (b + 1) = xx_i 69600 f) (hx : x < 1740) (hy : y < 1740) (hl : len ≤ 40) (hX : ∀ i, i < len → X i < 65536 ∧ f (40 * x + i) = nI (X i)) (hY : ∀ i, i < len → Y i < 65536 ∧ f (40 * y + i) = nI (Y i)) (hq : Q (.inl (some (.int (yy_cmp (yy_val 65536 X len) (yy_val 65536 Y len))))) A) :
    ∀ (n : Nat), n ≤ len → (∀ j, n ≤ j → j < len → X j = Y j) → xx_X G l mX9_compareSizes 0 0 0 45 [(0, .ref b), (1, .int (nI x)), (2, .int (nI y)), (3, .int (nI n + (-1)))] [] A Q := by
  intro n
  induction n with
  | zero =>
    intro hn he
    have e : yy_val 65536 X len = yy_val 65536 Y len := yy_val_ext (fun i hi => he i (Nat.zero_le _) hi)
    rw [e] at hq
    have e2 : yy_cmp (yy_val 65536 Y len) (yy_val 65536 Y len) = 0 := by unfold yy_cmp; rw [if_neg (Nat.lt_irrefl _), if_pos rfl]
    rw [e2] at hq
    refine xx_clv (lv2 := [(0, .ref b), (1, .int (nI x)), (2, .int (nI y)), (3, .int (-1))]) rfl ?_
    refine xx_iload_n dX9_compareSizes_45 rfl ?_
    refine xx_if_lt (tgt := 96) dX9_compareSizes_46 (by decide) (fun j46 => ?_) (fun h => absurd (by decide) h)
    refine xx_iconst (v := 0) dX9_compareSizes_96 (by decide) ?_
    exact xx_iret dX9_compareSizes_97 rfl hq
  | succ n ih =>
    intro hn he
    obtain ⟨p1, q1⟩ := hX n (by omega)
    obtain ⟨p2, q2⟩ := hY n (by omega)
    refine xx_clv (lv2 := [(0, .ref b), (1, .int (nI x)), (2, .int (nI y)), (3, .int (nI n))]) (by rw [pk_m1]) ?_
    refine xx_iload_n dX9_compareSizes_45 rfl ?_
    refine xx_if_lt (tgt := 96) dX9_compareSizes_46 (by decide) (fun h => absurd h (nI_pos (by omega))) (fun j46 => ?_)
    refine xx_aload_n dX9_compareSizes_49 rfl ?_
    refine xx_get xx_c9 dX9_compareSizes_50 wf_X9_8 (j := 1) (by decide) hb rfl ?_
    refine xx_bipush (v := 40) dX9_compareSizes_53 (by decide) ?_
    refine xx_iload_n dX9_compareSizes_55 rfl ?_
    refine xx_imul dX9_compareSizes_56 ?_
    refine xx_eqi (y := nI (40 * x)) (pk_mul 40 x) ?_
    refine xx_iload_n dX9_compareSizes_57 rfl ?_
    refine xx_iadd dX9_compareSizes_58 ?_
    refine xx_eqi (y := nI (40 * x + n)) (nI_add (40 * x) n) ?_
    refine xx_iald dX9_compareSizes_59 hf (vp_in_nI (by omega) (by decide)) ?_
    refine xx_eqi (y := nI (X n)) (by rw [nI_clamp (by omega)]; exact q1) ?_
    refine xx_aload_n dX9_compareSizes_60 rfl ?_
    refine xx_get xx_c9 dX9_compareSizes_61 wf_X9_8 (j := 1) (by decide) hb rfl ?_
    refine xx_bipush (v := 40) dX9_compareSizes_64 (by decide) ?_
    refine xx_iload_n dX9_compareSizes_66 rfl ?_
    refine xx_imul dX9_compareSizes_67 ?_
    refine xx_eqi (y := nI (40 * y)) (pk_mul 40 y) ?_
    refine xx_iload_n dX9_compareSizes_68 rfl ?_
    refine xx_iadd dX9_compareSizes_69 ?_
    refine xx_eqi (y := nI (40 * y + n)) (nI_add (40 * y) n) ?_
    refine xx_iald dX9_compareSizes_70 hf (vp_in_nI (by omega) (by decide)) ?_
    refine xx_eqi (y := nI (Y n)) (by rw [nI_clamp (by omega)]; exact q2) ?_
    refine xx_isub dX9_compareSizes_71 ?_
    refine xx_istore dX9_compareSizes_72 (by decide) ?_
    refine xx_clv (lv2 := [(0, .ref b), (1, .int (nI x)), (2, .int (nI y)), (3, .int (nI n)), (4, .int (nI (X n) - nI (Y n)))]) rfl ?_
    refine xx_iload dX9_compareSizes_74 rfl ?_
    refine xx_if_eq (tgt := 90) dX9_compareSizes_76 (by decide) (fun j76 => ?_) (fun j76 => ?_)
    · have j76 := (yy_dz0 p1 p2).mp j76
      refine xx_iinc (v := nI n + (-1)) dX9_compareSizes_90 rfl rfl (by decide) ?_
      refine xx_goto (tgt := 45) dX9_compareSizes_93 (by decide) ?_
      refine xx_less [0, 1, 2, 3] ?_
      refine xx_clv (lv2 := [(0, .ref b), (1, .int (nI x)), (2, .int (nI y)), (3, .int (nI n + (-1)))]) rfl ?_
      refine ih (by omega) (fun j h1 h2 => ?_)
      by_cases e : j = n
      · subst e; exact j76
      · exact he j (by omega) h2
    · refine xx_iload dX9_compareSizes_79 rfl ?_
      refine xx_if_ge (tgt := 88) dX9_compareSizes_81 (by decide) (fun j81 => ?_) (fun j81 => ?_)
      · refine xx_iconst (v := 1) dX9_compareSizes_88 (by decide) ?_
        have j76 : ¬ X n = Y n := fun q => j76 ((yy_dz0 p1 p2).mpr q)
        have j81 := (yy_dz1 p1 p2).mp j81
        have lt := yy_vcmp (β := 65536) (D := Y) (E := X) (n := len) (show n < len by omega) (fun j hj => (hY j (by omega)).1) (fun j h1 h2 => (he j (by omega) h2).symm) (by omega)
        have e2 : yy_cmp (yy_val 65536 X len) (yy_val 65536 Y len) = 1 := by unfold yy_cmp; rw [if_neg (by omega), if_neg (by omega)]
        rw [e2] at hq
        exact xx_iret dX9_compareSizes_89 rfl hq
      · refine xx_iconst (v := (-1)) dX9_compareSizes_84 (by decide) ?_
        refine xx_goto (tgt := 89) dX9_compareSizes_85 (by decide) ?_
        have j76 : ¬ X n = Y n := fun q => j76 ((yy_dz0 p1 p2).mpr q)
        have j81 : ¬ Y n ≤ X n := fun q => j81 ((yy_dz1 p1 p2).mpr q)
        have lt := yy_vcmp (β := 65536) (D := X) (E := Y) (n := len) (show n < len by omega) (fun j hj => (hX j (by omega)).1) (fun j h1 h2 => he j (by omega) h2) (by omega)
        have e2 : yy_cmp (yy_val 65536 X len) (yy_val 65536 Y len) = -1 := by unfold yy_cmp; rw [if_pos lt]
        rw [e2] at hq
        exact xx_iret dX9_compareSizes_89 rfl hq
set_option maxRecDepth 100000 in
theorem c_X9_compareSizes {G : xx_G} {l : Launch} {A : xx_H} {b : Nat} {u0 : Value} {us : List Value} {x y : Nat} {N : Nat → Int} (hb : A.2 b = xx_o 9 (u0 :: .ref (b + 1) :: .ref (b + 2) :: .ref (b + 3) :: us)) (hN : xx_rg A b N) (hx : x < 1740) (hy : y < 1740) : xx_X G l mX9_compareSizes 0 0 0 0 (lv_args 0 [.ref b, .int (nI x), .int (nI y)]) [] A (fun q B => q = .inl (some (.int (yy_cmp (N x).natAbs (N y).natAbs))) ∧ B = A) := by
  obtain ⟨f, g, h, hf, hg, hh, hN⟩ := hN
  obtain ⟨x1, la, x2, x3, X, x4, x5, x6⟩ := hN x hx
  obtain ⟨y1, lb, y2, y3, Y, y4, y5, y6⟩ := hN y hy
  refine xx_clv (lv2 := [(0, .ref b), (1, .int (nI x)), (2, .int (nI y))]) rfl ?_
  refine xx_aload_n dX9_compareSizes_0 rfl ?_
  refine xx_get xx_c9 dX9_compareSizes_1 wf_X9_14 (j := 2) (by decide) hb rfl ?_
  refine xx_iload_n dX9_compareSizes_4 rfl ?_
  refine xx_iald dX9_compareSizes_5 hg (vp_in_nI (by omega) (by decide)) ?_
  refine xx_eqi (y := nI la) (by rw [nI_clamp (by omega)]; exact x2) ?_
  refine xx_aload_n dX9_compareSizes_6 rfl ?_
  refine xx_get xx_c9 dX9_compareSizes_7 wf_X9_14 (j := 2) (by decide) hb rfl ?_
  refine xx_iload_n dX9_compareSizes_10 rfl ?_
  refine xx_iald dX9_compareSizes_11 hg (vp_in_nI (by omega) (by decide)) ?_
  refine xx_eqi (y := nI lb) (by rw [nI_clamp (by omega)]; exact y2) ?_
  refine xx_icmp_eq (tgt := 36) dX9_compareSizes_12 (by decide) (fun j12 => ?_) (fun j12 => ?_)
  · have j12 : la = lb := (nI_eq (a := la) (b := lb) (by omega) (by omega)).mp j12
    refine xx_aload_n dX9_compareSizes_36 rfl ?_
    refine xx_get xx_c9 dX9_compareSizes_37 wf_X9_14 (j := 2) (by decide) hb rfl ?_
    refine xx_iload_n dX9_compareSizes_40 rfl ?_
    refine xx_iald dX9_compareSizes_41 hg (vp_in_nI (by omega) (by decide)) ?_
    refine xx_eqi (y := nI la) (by rw [nI_clamp (by omega)]; exact x2) ?_
    refine xx_iconst (v := 1) dX9_compareSizes_42 (by decide) ?_
    refine xx_isub dX9_compareSizes_43 ?_
    refine xx_eqi (y := nI la + (-1)) (yy_m1 _) ?_
    refine xx_istore_n dX9_compareSizes_44 (by decide) ?_
    refine xx_clv (lv2 := [(0, .ref b), (1, .int (nI x)), (2, .int (nI y)), (3, .int (nI la + (-1)))]) rfl ?_
    subst j12
    refine l_X9_cs hb hf hx hy x3 x4 y4 ⟨by rw [x6, y6], rfl⟩ la (Nat.le_refl _) (fun j h1 h2 => absurd h2 (by omega))
  · have j12 : ¬ la = lb := fun q => j12 ((nI_eq (a := la) (b := lb) (by omega) (by omega)).mpr q)
    refine xx_aload_n dX9_compareSizes_15 rfl ?_
    refine xx_get xx_c9 dX9_compareSizes_16 wf_X9_14 (j := 2) (by decide) hb rfl ?_
    refine xx_iload_n dX9_compareSizes_19 rfl ?_
    refine xx_iald dX9_compareSizes_20 hg (vp_in_nI (by omega) (by decide)) ?_
    refine xx_eqi (y := nI la) (by rw [nI_clamp (by omega)]; exact x2) ?_
    refine xx_aload_n dX9_compareSizes_21 rfl ?_
    refine xx_get xx_c9 dX9_compareSizes_22 wf_X9_14 (j := 2) (by decide) hb rfl ?_
    refine xx_iload_n dX9_compareSizes_25 rfl ?_
    refine xx_iald dX9_compareSizes_26 hg (vp_in_nI (by omega) (by decide)) ?_
    refine xx_eqi (y := nI lb) (by rw [nI_clamp (by omega)]; exact y2) ?_
    refine xx_icmp_ge (tgt := 34) dX9_compareSizes_27 (by decide) (fun j27 => ?_) (fun j27 => ?_)
    · have j27 : lb ≤ la := (nI_leI (a := lb) (b := la) (by omega) (by omega)).mp j27
      refine xx_iconst (v := 1) dX9_compareSizes_34 (by decide) ?_
      have lt := yy_l16 (D := Y) (E := X) (fun i hi => (y4 i hi).1) x5 (by omega)
      rw [← x6, ← y6] at lt
      have e2 : yy_cmp (N x).natAbs (N y).natAbs = 1 := by unfold yy_cmp; rw [if_neg (by omega), if_neg (by omega)]
      rw [e2]
      exact xx_iret dX9_compareSizes_35 rfl ⟨rfl, rfl⟩
    · have j27 : ¬ lb ≤ la := fun q => j27 ((nI_leI (a := lb) (b := la) (by omega) (by omega)).mpr q)
      refine xx_iconst (v := (-1)) dX9_compareSizes_30 (by decide) ?_
      refine xx_goto (tgt := 35) dX9_compareSizes_31 (by decide) ?_
      have lt := yy_l16 (D := X) (E := Y) (fun i hi => (x4 i hi).1) y5 (by omega)
      rw [← x6, ← y6] at lt
      have e2 : yy_cmp (N x).natAbs (N y).natAbs = -1 := by unfold yy_cmp; rw [if_pos lt]
      rw [e2]
      exact xx_iret dX9_compareSizes_35 rfl ⟨rfl, rfl⟩
set_option maxRecDepth 100000 in
theorem c_X9_compare {G : xx_G} {l : Launch} {A : xx_H} {b : Nat} {u0 : Value} {us : List Value} {x y : Nat} {N : Nat → Int} (hb : A.2 b = xx_o 9 (u0 :: .ref (b + 1) :: .ref (b + 2) :: .ref (b + 3) :: us)) (hN : xx_rg A b N) (hx : x < 1740) (hy : y < 1740) : xx_X G l mX9_compare 1 0 0 0 (lv_args 0 [.ref b, .int (nI x), .int (nI y)]) [] A (fun q B => q = .inl (some (.int (yy_cmz (N x) (N y)))) ∧ B = A) := by
  have hN0 := hN
  obtain ⟨f, g, h, hf, hg, hh, hN⟩ := hN
  have x1 := (hN x hx).1
  have y1 := (hN y hy).1
  refine xx_clv (lv2 := [(0, .ref b), (1, .int (nI x)), (2, .int (nI y))]) rfl ?_
  refine xx_aload_n dX9_compare_0 rfl ?_
  refine xx_get xx_c9 dX9_compare_1 wf_X9_17 (j := 3) (by decide) hb rfl ?_
  refine xx_iload_n dX9_compare_4 rfl ?_
  refine xx_iald dX9_compare_5 hh (vp_in_nI (by omega) (by decide)) ?_
  refine xx_eqi (y := iz (N x).sign) (by rw [nI_clamp (by omega)]; exact x1) ?_
  refine xx_aload_n dX9_compare_6 rfl ?_
  refine xx_get xx_c9 dX9_compare_7 wf_X9_17 (j := 3) (by decide) hb rfl ?_
  refine xx_iload_n dX9_compare_10 rfl ?_
  refine xx_iald dX9_compare_11 hh (vp_in_nI (by omega) (by decide)) ?_
  refine xx_eqi (y := iz (N y).sign) (by rw [nI_clamp (by omega)]; exact y1) ?_
  refine xx_icmp_eq (tgt := 36) dX9_compare_12 (by decide) (fun j12 => ?_) (fun j12 => ?_)
  · refine xx_aload_n dX9_compare_36 rfl ?_
    refine xx_get xx_c9 dX9_compare_37 wf_X9_17 (j := 3) (by decide) hb rfl ?_
    refine xx_iload_n dX9_compare_40 rfl ?_
    refine xx_iald dX9_compare_41 hh (vp_in_nI (by omega) (by decide)) ?_
    refine xx_eqi (y := iz (N x).sign) (by rw [nI_clamp (by omega)]; exact x1) ?_
    refine xx_if_ne (tgt := 49) dX9_compare_42 (by decide) (fun j42 => ?_) (fun j42 => ?_)
    · refine xx_aload_n dX9_compare_49 rfl ?_
      refine xx_get xx_c9 dX9_compare_50 wf_X9_17 (j := 3) (by decide) hb rfl ?_
      refine xx_iload_n dX9_compare_53 rfl ?_
      refine xx_iald dX9_compare_54 hh (vp_in_nI (by omega) (by decide)) ?_
      refine xx_eqi (y := iz (N x).sign) (by rw [nI_clamp (by omega)]; exact x1) ?_
      refine xx_aload_n dX9_compare_55 rfl ?_
      refine xx_iload_n dX9_compare_56 rfl ?_
      refine xx_iload_n dX9_compare_57 rfl ?_
      refine xx_callV (N := mX9_compareSizes) (vs := [.int (nI x), .int (nI y)]) (b := b) (rest := [.int (iz (N x).sign)]) (d2 := 0) (c2 := 0) (s2 := 0) (c3 := 0) (s3 := 0) dX9_compare_58 wm_X9_89 wi_X9_compareSizes wv_X9_compareSizes (k := 9) rfl (by decide) hb nX9_compareSizes ⟨pX9_compareSizes, Nat.le_of_ble_eq_true rfl, by decide, Nat.le_of_ble_eq_true rfl, by decide, by decide⟩ (c_X9_compareSizes hb hN0 hx hy) (fun v9 B9 hC => ?_) (fun E9 B9 hC => absurd hC.1 (by simp))
      obtain ⟨hv9, e9⟩ := hC
      cases hv9
      refine xx_cst (st2 := [.int (yy_cmp (N x).natAbs (N y).natAbs), .int (iz (N x).sign)]) rfl ?_
      rw [e9]
      refine xx_imul dX9_compare_61 ?_
      refine xx_eqi (y := yy_cmz (N x) (N y)) (yy_cw _ _ j12) ?_
      exact xx_iret dX9_compare_62 rfl ⟨rfl, rfl⟩
    · refine xx_iconst (v := 0) dX9_compare_45 (by decide) ?_
      refine xx_goto (tgt := 62) dX9_compare_46 (by decide) ?_
      have e2 := yy_cw (N x) (N y) j12
      rw [j42] at e2
      have e3 : (0 : Int32) * yy_cmp (N x).natAbs (N y).natAbs = 0 := Int32.zero_mul
      exact xx_iret dX9_compare_62 rfl ⟨by rw [← e2, e3], rfl⟩
  · refine xx_aload_n dX9_compare_15 rfl ?_
    refine xx_get xx_c9 dX9_compare_16 wf_X9_17 (j := 3) (by decide) hb rfl ?_
    refine xx_iload_n dX9_compare_19 rfl ?_
    refine xx_iald dX9_compare_20 hh (vp_in_nI (by omega) (by decide)) ?_
    refine xx_eqi (y := iz (N x).sign) (by rw [nI_clamp (by omega)]; exact x1) ?_
    refine xx_aload_n dX9_compare_21 rfl ?_
    refine xx_get xx_c9 dX9_compare_22 wf_X9_17 (j := 3) (by decide) hb rfl ?_
    refine xx_iload_n dX9_compare_25 rfl ?_
    refine xx_iald dX9_compare_26 hh (vp_in_nI (by omega) (by decide)) ?_
    refine xx_eqi (y := iz (N y).sign) (by rw [nI_clamp (by omega)]; exact y1) ?_
    refine xx_icmp_ge (tgt := 34) dX9_compare_27 (by decide) (fun j27 => ?_) (fun j27 => ?_)
    · refine xx_iconst (v := 1) dX9_compare_34 (by decide) ?_
      exact xx_iret dX9_compare_35 rfl ⟨by rw [yy_cwn _ _ j12, if_pos j27], rfl⟩
    · refine xx_iconst (v := (-1)) dX9_compare_30 (by decide) ?_
      refine xx_goto (tgt := 35) dX9_compare_31 (by decide) ?_
      exact xx_iret dX9_compare_35 rfl ⟨by rw [yy_cwn _ _ j12, if_neg j27], rfl⟩
theorem iz_m16 (z : Int) : iz z &&& 65535 = nI (z % 65536).toNat := by
  rw [pk_and (iz z) (m := 65535) 16 (by decide)]
  congr 1
  show (BitVec.ofInt 32 z).toNat % 2 ^ 16 = _
  rw [BitVec.toNat_ofInt]
  apply Int.ofNat.inj
  have h2 : 0 ≤ z % ((2 ^ 32 : Nat) : Int) := Int.emod_nonneg _ (by decide)
  have h0 : 0 ≤ z % 65536 := Int.emod_nonneg _ (by decide)
  show (((z % ((2 ^ 32 : Nat) : Int)).toNat % 2 ^ 16 : Nat) : Int) = (((z % 65536).toNat : Nat) : Int)
  rw [Int.natCast_emod, Int.toNat_of_nonneg h2, Int.toNat_of_nonneg h0]
  exact Int.emod_emod_of_dvd z ⟨65536, by decide⟩
theorem yy_pad_s {D : Nat → Nat} {n i : Nat} (h : i < n) : yy_pad D n i = D i := if_pos h
theorem yy_pad_z {D : Nat → Nat} {n i : Nat} (h : ¬ i < n) : yy_pad D n i = 0 := if_neg h
theorem yy_padb {D : Nat → Nat} {n β : Nat} (h0 : 0 < β) (h : ∀ i, i < n → D i < β) (i : Nat) : yy_pad D n i < β := by
  unfold yy_pad
  split
  · rename_i q; exact h i q
  · exact h0
set_option maxRecDepth 100000 in
theorem l_X9_as {G : xx_G} {l : Launch} {A : xx_H} {b : Nat} {u0 : Value} {us : List Value} {x y c la lb M : Nat} {f : Nat → Int32} {X Y : Nat → Nat} {sm : Int32} {Q : Option Value ⊕ String → xx_H → Prop} (hb : A.2 b = xx_o 9 (u0 :: .ref (b + 1) :: .ref (b + 2) :: .ref (b + 3) :: us)) (hx : x < 1740) (hy : y < 1740) (hc : c < 1740) (hla : la ≤ 40) (hlb : lb ≤ 40) (hM : M ≤ 39) (hX : ∀ i, i < la → X i < 65536 ∧ f (40 * x + i) = nI (X i)) (hY : ∀ i, i < lb → Y i < 65536 ∧ f (40 * y + i) = nI (Y i)) (k : ∀ (B : xx_H) (f1 : Nat → Int32) (R : Nat → Nat) (cc : Nat), B.1 = A.1 → B.2 (b + 1) = xx_i 69600 f1 → (∀ j, j < (M + 1) → R j < 65536 ∧ f1 (40 * c + j) = nI (R j)) → (∀ j, j < 40 * c ∨ 40 * c + (M + 1) ≤ j → f1 j = f j) → cc ≤ 1 → yy_val 65536 R (M + 1) + cc * 65536 ^ (M + 1) = yy_val 65536 (yy_pad X la) (M + 1) + yy_val 65536 (yy_pad Y lb) (M + 1) → (∀ q, q ≠ b + 1 → B.2 q = A.2 q) → xx_X G l mX9_add 1 0 0 205 [(0, .ref b), (4, .int (nI c)), (7, .int sm), (8, .int (nI M))] [] B Q) :
    ∀ (t i : Nat), i + t = M + 1 → ∀ (B : xx_H) (f1 : Nat → Int32) (R : Nat → Nat) (cc : Nat), B.1 = A.1 → B.2 (b + 1) = xx_i 69600 f1 → (∀ j, j < i → R j < 65536 ∧ f1 (40 * c + j) = nI (R j)) → (∀ j, j < 40 * c ∨ 40 * c + i ≤ j → f1 j = f j) → cc ≤ 1 → yy_val 65536 R i + cc * 65536 ^ i = yy_val 65536 (yy_pad X la) i + yy_val 65536 (yy_pad Y lb) i → (∀ q, q ≠ b + 1 → B.2 q = A.2 q) → xx_X G l mX9_add 1 0 0 115 [(0, .ref b), (1, .int (nI x)), (2, .int (nI y)), (4, .int (nI c)), (7, .int sm), (8, .int (nI M)), (9, .int (nI la)), (10, .int (nI lb)), (11, .int (nI cc)), (12, .int (nI i))] [] B Q := by
  intro t
  induction t with
  | zero =>
    intro i hi B f1 R cc y1 y2 y3 y4 y5 y6 y7
    have : i = M + 1 := by omega
    subst this
    refine xx_iload dX9_add_115 rfl ?_
    refine xx_iload dX9_add_117 rfl ?_
    refine xx_icmp_gt (tgt := 205) dX9_add_119 (by decide) (fun j119 => ?_) (fun h => absurd (nI_lt (by omega) (by omega)) h)
    refine xx_less [0, 4, 7, 8] ?_
    refine xx_clv (lv2 := [(0, .ref b), (4, .int (nI c)), (7, .int sm), (8, .int (nI M))]) rfl ?_
    exact k B f1 R cc y1 y2 y3 y4 y5 y6 y7
  | succ t ih =>
    intro i hi B f1 R cc y1 y2 y3 y4 y5 y6 y7
    have hb2 := (y7 b (by omega)).trans hb
    have px : yy_pad X la i < 65536 := yy_padb (by decide) (fun j hj => (hX j hj).1) i
    have py : yy_pad Y lb i < 65536 := yy_padb (by decide) (fun j hj => (hY j hj).1) i
    refine xx_iload dX9_add_115 rfl ?_
    refine xx_iload dX9_add_117 rfl ?_
    refine xx_icmp_gt (tgt := 205) dX9_add_119 (by decide) (fun h => absurd h (nI_nlt (by omega) (by omega))) (fun j119 => ?_)
    refine xx_iload dX9_add_122 rfl ?_
    refine xx_iload dX9_add_124 rfl ?_
    refine xx_icmp_ge (tgt := 144) dX9_add_126 (by decide) (fun j126 => ?_) (fun j126 => ?_)
    · have j126 : la ≤ i := (nI_leI (a := la) (b := i) (by omega) (by omega)).mp j126
      refine xx_iconst (v := 0) dX9_add_144 (by decide) ?_
      refine xx_eqi (y := nI (yy_pad X la i)) (by rw [yy_pad_z (by omega)]; exact nI_0.symm) ?_
      refine xx_iload dX9_add_145 rfl ?_
      refine xx_iload dX9_add_147 rfl ?_
      refine xx_icmp_ge (tgt := 167) dX9_add_149 (by decide) (fun j149 => ?_) (fun j149 => ?_)
      · have j149 : lb ≤ i := (nI_leI (a := lb) (b := i) (by omega) (by omega)).mp j149
        refine xx_iconst (v := 0) dX9_add_167 (by decide) ?_
        refine xx_eqi (y := nI (yy_pad Y lb i)) (by rw [yy_pad_z (by omega)]; exact nI_0.symm) ?_
        refine xx_iadd dX9_add_168 ?_
        refine xx_eqi (y := nI (yy_pad X la i + (yy_pad Y lb i))) (nI_add (yy_pad X la i) (yy_pad Y lb i)) ?_
        refine xx_iload dX9_add_169 rfl ?_
        refine xx_iadd dX9_add_171 ?_
        refine xx_eqi (y := nI (yy_pad X la i + (yy_pad Y lb i) + cc)) (nI_add (yy_pad X la i + (yy_pad Y lb i)) cc) ?_
        refine xx_istore dX9_add_172 (by decide) ?_
        refine xx_clv (lv2 := [(0, .ref b), (1, .int (nI x)), (2, .int (nI y)), (4, .int (nI c)), (7, .int sm), (8, .int (nI M)), (9, .int (nI la)), (10, .int (nI lb)), (11, .int (nI cc)), (12, .int (nI i)), (13, .int (nI (yy_pad X la i + (yy_pad Y lb i) + cc)))]) rfl ?_
        refine xx_aload_n dX9_add_174 rfl ?_
        refine xx_get xx_c9 dX9_add_175 wf_X9_8 (j := 1) (by decide) hb2 rfl ?_
        refine xx_bipush (v := 40) dX9_add_178 (by decide) ?_
        refine xx_iload dX9_add_180 rfl ?_
        refine xx_imul dX9_add_182 ?_
        refine xx_eqi (y := nI (40 * c)) (pk_mul 40 c) ?_
        refine xx_iload dX9_add_183 rfl ?_
        refine xx_iadd dX9_add_185 ?_
        refine xx_eqi (y := nI (40 * c + i)) (nI_add (40 * c) i) ?_
        refine xx_iload dX9_add_186 rfl ?_
        refine xx_ldc (v := 65535) dX9_add_188 wk_X9_93 ?_
        refine xx_iand dX9_add_190 ?_
        refine xx_eqi (y := nI ((yy_pad X la i + (yy_pad Y lb i) + cc) % 65536)) (pk_andN (n := (yy_pad X la i + (yy_pad Y lb i) + cc)) (by omega) 16 (by decide)) ?_
        refine xx_iast dX9_add_191 y2 (vp_in_nI (by omega) (by decide)) (xx_gu fun C z1 h1 o1 => ?_)
        rw [nI_clamp (by omega)] at h1
        refine xx_iload dX9_add_192 rfl ?_
        refine xx_bipush (v := 16) dX9_add_194 (by decide) ?_
        refine xx_ishr dX9_add_196 ?_
        refine xx_eqi (y := nI ((yy_pad X la i + (yy_pad Y lb i) + cc) / 65536)) (pk_shrN (n := (yy_pad X la i + (yy_pad Y lb i) + cc)) (by omega) (16 &&& 31) 16 (by decide)) ?_
        refine xx_istore dX9_add_197 (by decide) ?_
        refine xx_clv (lv2 := [(0, .ref b), (1, .int (nI x)), (2, .int (nI y)), (4, .int (nI c)), (7, .int sm), (8, .int (nI M)), (9, .int (nI la)), (10, .int (nI lb)), (11, .int (nI ((yy_pad X la i + (yy_pad Y lb i) + cc) / 65536))), (12, .int (nI i)), (13, .int (nI (yy_pad X la i + (yy_pad Y lb i) + cc)))]) rfl ?_
        refine xx_iinc (v := nI (i + 1)) dX9_add_199 rfl (nI_1 i) (by decide) ?_
        refine xx_goto (tgt := 115) dX9_add_202 (by decide) ?_
        refine xx_less [0, 1, 2, 4, 7, 8, 9, 10, 11, 12] ?_
        refine xx_clv (lv2 := [(0, .ref b), (1, .int (nI x)), (2, .int (nI y)), (4, .int (nI c)), (7, .int sm), (8, .int (nI M)), (9, .int (nI la)), (10, .int (nI lb)), (11, .int (nI ((yy_pad X la i + yy_pad Y lb i + cc) / 65536))), (12, .int (nI (i + 1)))]) rfl ?_
        refine ih (i + 1) (by omega) C _ (yy_ud R i ((yy_pad X la i + yy_pad Y lb i + cc) % 65536)) ((yy_pad X la i + yy_pad Y lb i + cc) / 65536) (by omega) h1 (fun j hj => ?_) (fun j hj => (pk_un (by omega)).trans (y4 j (by omega))) (by omega) ?_ (fun q hq => (o1 q hq).trans (y7 q hq))
        · by_cases e : j = i
          · subst e; rw [pk_us, yy_ud_s]; exact ⟨Nat.mod_lt _ (by decide), rfl⟩
          · rw [pk_un (by omega), yy_ud_n e]; exact y3 j (by omega)
        · rw [yy_ud_val, Nat.pow_succ]
          have h9 := yy_stp _ cc (65536 ^ i) _ (yy_pad X la i + yy_pad Y lb i) ((yy_pad X la i + yy_pad Y lb i + cc) % 65536) ((yy_pad X la i + yy_pad Y lb i + cc) / 65536) 65536 y6 (by rw [Nat.mod_add_div]; omega)
          show _ = (yy_val 65536 (yy_pad X la) i + yy_pad X la i * 65536 ^ i) + (yy_val 65536 (yy_pad Y lb) i + yy_pad Y lb i * 65536 ^ i)
          rw [h9, Nat.add_mul]
          omega
      · have j149 : ¬ lb ≤ i := fun q => j149 ((nI_leI (a := lb) (b := i) (by omega) (by omega)).mpr q)
        refine xx_aload_n dX9_add_152 rfl ?_
        refine xx_get xx_c9 dX9_add_153 wf_X9_8 (j := 1) (by decide) hb2 rfl ?_
        refine xx_bipush (v := 40) dX9_add_156 (by decide) ?_
        refine xx_iload_n dX9_add_158 rfl ?_
        refine xx_imul dX9_add_159 ?_
        refine xx_eqi (y := nI (40 * y)) (pk_mul 40 y) ?_
        refine xx_iload dX9_add_160 rfl ?_
        refine xx_iadd dX9_add_162 ?_
        refine xx_eqi (y := nI (40 * y + i)) (nI_add (40 * y) i) ?_
        have q2 : f1 (40 * y + i) = nI (Y i) := (y4 _ (by omega)).trans (hY i (by omega)).2
        refine xx_iald dX9_add_163 y2 (vp_in_nI (by omega) (by decide)) ?_
        refine xx_eqi (y := nI (Y i)) (by rw [nI_clamp (by omega)]; exact q2) ?_
        refine xx_goto (tgt := 168) dX9_add_164 (by decide) ?_
        refine xx_eqi (y := nI (yy_pad Y lb i)) (by rw [yy_pad_s (by omega)]) ?_
        refine xx_iadd dX9_add_168 ?_
        refine xx_eqi (y := nI (yy_pad X la i + (yy_pad Y lb i))) (nI_add (yy_pad X la i) (yy_pad Y lb i)) ?_
        refine xx_iload dX9_add_169 rfl ?_
        refine xx_iadd dX9_add_171 ?_
        refine xx_eqi (y := nI (yy_pad X la i + (yy_pad Y lb i) + cc)) (nI_add (yy_pad X la i + (yy_pad Y lb i)) cc) ?_
        refine xx_istore dX9_add_172 (by decide) ?_
        refine xx_clv (lv2 := [(0, .ref b), (1, .int (nI x)), (2, .int (nI y)), (4, .int (nI c)), (7, .int sm), (8, .int (nI M)), (9, .int (nI la)), (10, .int (nI lb)), (11, .int (nI cc)), (12, .int (nI i)), (13, .int (nI (yy_pad X la i + (yy_pad Y lb i) + cc)))]) rfl ?_
        refine xx_aload_n dX9_add_174 rfl ?_
        refine xx_get xx_c9 dX9_add_175 wf_X9_8 (j := 1) (by decide) hb2 rfl ?_
        refine xx_bipush (v := 40) dX9_add_178 (by decide) ?_
        refine xx_iload dX9_add_180 rfl ?_
        refine xx_imul dX9_add_182 ?_
        refine xx_eqi (y := nI (40 * c)) (pk_mul 40 c) ?_
        refine xx_iload dX9_add_183 rfl ?_
        refine xx_iadd dX9_add_185 ?_
        refine xx_eqi (y := nI (40 * c + i)) (nI_add (40 * c) i) ?_
        refine xx_iload dX9_add_186 rfl ?_
        refine xx_ldc (v := 65535) dX9_add_188 wk_X9_93 ?_
        refine xx_iand dX9_add_190 ?_
        refine xx_eqi (y := nI ((yy_pad X la i + (yy_pad Y lb i) + cc) % 65536)) (pk_andN (n := (yy_pad X la i + (yy_pad Y lb i) + cc)) (by omega) 16 (by decide)) ?_
        refine xx_iast dX9_add_191 y2 (vp_in_nI (by omega) (by decide)) (xx_gu fun C z1 h1 o1 => ?_)
        rw [nI_clamp (by omega)] at h1
        refine xx_iload dX9_add_192 rfl ?_
        refine xx_bipush (v := 16) dX9_add_194 (by decide) ?_
        refine xx_ishr dX9_add_196 ?_
        refine xx_eqi (y := nI ((yy_pad X la i + (yy_pad Y lb i) + cc) / 65536)) (pk_shrN (n := (yy_pad X la i + (yy_pad Y lb i) + cc)) (by omega) (16 &&& 31) 16 (by decide)) ?_
        refine xx_istore dX9_add_197 (by decide) ?_
        refine xx_clv (lv2 := [(0, .ref b), (1, .int (nI x)), (2, .int (nI y)), (4, .int (nI c)), (7, .int sm), (8, .int (nI M)), (9, .int (nI la)), (10, .int (nI lb)), (11, .int (nI ((yy_pad X la i + (yy_pad Y lb i) + cc) / 65536))), (12, .int (nI i)), (13, .int (nI (yy_pad X la i + (yy_pad Y lb i) + cc)))]) rfl ?_
        refine xx_iinc (v := nI (i + 1)) dX9_add_199 rfl (nI_1 i) (by decide) ?_
        refine xx_goto (tgt := 115) dX9_add_202 (by decide) ?_
        refine xx_less [0, 1, 2, 4, 7, 8, 9, 10, 11, 12] ?_
        refine xx_clv (lv2 := [(0, .ref b), (1, .int (nI x)), (2, .int (nI y)), (4, .int (nI c)), (7, .int sm), (8, .int (nI M)), (9, .int (nI la)), (10, .int (nI lb)), (11, .int (nI ((yy_pad X la i + yy_pad Y lb i + cc) / 65536))), (12, .int (nI (i + 1)))]) rfl ?_
        refine ih (i + 1) (by omega) C _ (yy_ud R i ((yy_pad X la i + yy_pad Y lb i + cc) % 65536)) ((yy_pad X la i + yy_pad Y lb i + cc) / 65536) (by omega) h1 (fun j hj => ?_) (fun j hj => (pk_un (by omega)).trans (y4 j (by omega))) (by omega) ?_ (fun q hq => (o1 q hq).trans (y7 q hq))
        · by_cases e : j = i
          · subst e; rw [pk_us, yy_ud_s]; exact ⟨Nat.mod_lt _ (by decide), rfl⟩
          · rw [pk_un (by omega), yy_ud_n e]; exact y3 j (by omega)
        · rw [yy_ud_val, Nat.pow_succ]
          have h9 := yy_stp _ cc (65536 ^ i) _ (yy_pad X la i + yy_pad Y lb i) ((yy_pad X la i + yy_pad Y lb i + cc) % 65536) ((yy_pad X la i + yy_pad Y lb i + cc) / 65536) 65536 y6 (by rw [Nat.mod_add_div]; omega)
          show _ = (yy_val 65536 (yy_pad X la) i + yy_pad X la i * 65536 ^ i) + (yy_val 65536 (yy_pad Y lb) i + yy_pad Y lb i * 65536 ^ i)
          rw [h9, Nat.add_mul]
          omega
    · have j126 : ¬ la ≤ i := fun q => j126 ((nI_leI (a := la) (b := i) (by omega) (by omega)).mpr q)
      refine xx_aload_n dX9_add_129 rfl ?_
      refine xx_get xx_c9 dX9_add_130 wf_X9_8 (j := 1) (by decide) hb2 rfl ?_
      refine xx_bipush (v := 40) dX9_add_133 (by decide) ?_
      refine xx_iload_n dX9_add_135 rfl ?_
      refine xx_imul dX9_add_136 ?_
      refine xx_eqi (y := nI (40 * x)) (pk_mul 40 x) ?_
      refine xx_iload dX9_add_137 rfl ?_
      refine xx_iadd dX9_add_139 ?_
      refine xx_eqi (y := nI (40 * x + i)) (nI_add (40 * x) i) ?_
      have q1 : f1 (40 * x + i) = nI (X i) := (y4 _ (by omega)).trans (hX i (by omega)).2
      refine xx_iald dX9_add_140 y2 (vp_in_nI (by omega) (by decide)) ?_
      refine xx_eqi (y := nI (X i)) (by rw [nI_clamp (by omega)]; exact q1) ?_
      refine xx_goto (tgt := 145) dX9_add_141 (by decide) ?_
      refine xx_eqi (y := nI (yy_pad X la i)) (by rw [yy_pad_s (by omega)]) ?_
      refine xx_iload dX9_add_145 rfl ?_
      refine xx_iload dX9_add_147 rfl ?_
      refine xx_icmp_ge (tgt := 167) dX9_add_149 (by decide) (fun j149 => ?_) (fun j149 => ?_)
      · have j149 : lb ≤ i := (nI_leI (a := lb) (b := i) (by omega) (by omega)).mp j149
        refine xx_iconst (v := 0) dX9_add_167 (by decide) ?_
        refine xx_eqi (y := nI (yy_pad Y lb i)) (by rw [yy_pad_z (by omega)]; exact nI_0.symm) ?_
        refine xx_iadd dX9_add_168 ?_
        refine xx_eqi (y := nI (yy_pad X la i + (yy_pad Y lb i))) (nI_add (yy_pad X la i) (yy_pad Y lb i)) ?_
        refine xx_iload dX9_add_169 rfl ?_
        refine xx_iadd dX9_add_171 ?_
        refine xx_eqi (y := nI (yy_pad X la i + (yy_pad Y lb i) + cc)) (nI_add (yy_pad X la i + (yy_pad Y lb i)) cc) ?_
        refine xx_istore dX9_add_172 (by decide) ?_
        refine xx_clv (lv2 := [(0, .ref b), (1, .int (nI x)), (2, .int (nI y)), (4, .int (nI c)), (7, .int sm), (8, .int (nI M)), (9, .int (nI la)), (10, .int (nI lb)), (11, .int (nI cc)), (12, .int (nI i)), (13, .int (nI (yy_pad X la i + (yy_pad Y lb i) + cc)))]) rfl ?_
        refine xx_aload_n dX9_add_174 rfl ?_
        refine xx_get xx_c9 dX9_add_175 wf_X9_8 (j := 1) (by decide) hb2 rfl ?_
        refine xx_bipush (v := 40) dX9_add_178 (by decide) ?_
        refine xx_iload dX9_add_180 rfl ?_
        refine xx_imul dX9_add_182 ?_
        refine xx_eqi (y := nI (40 * c)) (pk_mul 40 c) ?_
        refine xx_iload dX9_add_183 rfl ?_
        refine xx_iadd dX9_add_185 ?_
        refine xx_eqi (y := nI (40 * c + i)) (nI_add (40 * c) i) ?_
        refine xx_iload dX9_add_186 rfl ?_
        refine xx_ldc (v := 65535) dX9_add_188 wk_X9_93 ?_
        refine xx_iand dX9_add_190 ?_
        refine xx_eqi (y := nI ((yy_pad X la i + (yy_pad Y lb i) + cc) % 65536)) (pk_andN (n := (yy_pad X la i + (yy_pad Y lb i) + cc)) (by omega) 16 (by decide)) ?_
        refine xx_iast dX9_add_191 y2 (vp_in_nI (by omega) (by decide)) (xx_gu fun C z1 h1 o1 => ?_)
        rw [nI_clamp (by omega)] at h1
        refine xx_iload dX9_add_192 rfl ?_
        refine xx_bipush (v := 16) dX9_add_194 (by decide) ?_
        refine xx_ishr dX9_add_196 ?_
        refine xx_eqi (y := nI ((yy_pad X la i + (yy_pad Y lb i) + cc) / 65536)) (pk_shrN (n := (yy_pad X la i + (yy_pad Y lb i) + cc)) (by omega) (16 &&& 31) 16 (by decide)) ?_
        refine xx_istore dX9_add_197 (by decide) ?_
        refine xx_clv (lv2 := [(0, .ref b), (1, .int (nI x)), (2, .int (nI y)), (4, .int (nI c)), (7, .int sm), (8, .int (nI M)), (9, .int (nI la)), (10, .int (nI lb)), (11, .int (nI ((yy_pad X la i + (yy_pad Y lb i) + cc) / 65536))), (12, .int (nI i)), (13, .int (nI (yy_pad X la i + (yy_pad Y lb i) + cc)))]) rfl ?_
        refine xx_iinc (v := nI (i + 1)) dX9_add_199 rfl (nI_1 i) (by decide) ?_
        refine xx_goto (tgt := 115) dX9_add_202 (by decide) ?_
        refine xx_less [0, 1, 2, 4, 7, 8, 9, 10, 11, 12] ?_
        refine xx_clv (lv2 := [(0, .ref b), (1, .int (nI x)), (2, .int (nI y)), (4, .int (nI c)), (7, .int sm), (8, .int (nI M)), (9, .int (nI la)), (10, .int (nI lb)), (11, .int (nI ((yy_pad X la i + yy_pad Y lb i + cc) / 65536))), (12, .int (nI (i + 1)))]) rfl ?_
        refine ih (i + 1) (by omega) C _ (yy_ud R i ((yy_pad X la i + yy_pad Y lb i + cc) % 65536)) ((yy_pad X la i + yy_pad Y lb i + cc) / 65536) (by omega) h1 (fun j hj => ?_) (fun j hj => (pk_un (by omega)).trans (y4 j (by omega))) (by omega) ?_ (fun q hq => (o1 q hq).trans (y7 q hq))
        · by_cases e : j = i
          · subst e; rw [pk_us, yy_ud_s]; exact ⟨Nat.mod_lt _ (by decide), rfl⟩
          · rw [pk_un (by omega), yy_ud_n e]; exact y3 j (by omega)
        · rw [yy_ud_val, Nat.pow_succ]
          have h9 := yy_stp _ cc (65536 ^ i) _ (yy_pad X la i + yy_pad Y lb i) ((yy_pad X la i + yy_pad Y lb i + cc) % 65536) ((yy_pad X la i + yy_pad Y lb i + cc) / 65536) 65536 y6 (by rw [Nat.mod_add_div]; omega)
          show _ = (yy_val 65536 (yy_pad X la) i + yy_pad X la i * 65536 ^ i) + (yy_val 65536 (yy_pad Y lb) i + yy_pad Y lb i * 65536 ^ i)
          rw [h9, Nat.add_mul]
          omega
      · have j149 : ¬ lb ≤ i := fun q => j149 ((nI_leI (a := lb) (b := i) (by omega) (by omega)).mpr q)
        refine xx_aload_n dX9_add_152 rfl ?_
        refine xx_get xx_c9 dX9_add_153 wf_X9_8 (j := 1) (by decide) hb2 rfl ?_
        refine xx_bipush (v := 40) dX9_add_156 (by decide) ?_
        refine xx_iload_n dX9_add_158 rfl ?_
        refine xx_imul dX9_add_159 ?_
        refine xx_eqi (y := nI (40 * y)) (pk_mul 40 y) ?_
        refine xx_iload dX9_add_160 rfl ?_
        refine xx_iadd dX9_add_162 ?_
        refine xx_eqi (y := nI (40 * y + i)) (nI_add (40 * y) i) ?_
        have q2 : f1 (40 * y + i) = nI (Y i) := (y4 _ (by omega)).trans (hY i (by omega)).2
        refine xx_iald dX9_add_163 y2 (vp_in_nI (by omega) (by decide)) ?_
        refine xx_eqi (y := nI (Y i)) (by rw [nI_clamp (by omega)]; exact q2) ?_
        refine xx_goto (tgt := 168) dX9_add_164 (by decide) ?_
        refine xx_eqi (y := nI (yy_pad Y lb i)) (by rw [yy_pad_s (by omega)]) ?_
        refine xx_iadd dX9_add_168 ?_
        refine xx_eqi (y := nI (yy_pad X la i + (yy_pad Y lb i))) (nI_add (yy_pad X la i) (yy_pad Y lb i)) ?_
        refine xx_iload dX9_add_169 rfl ?_
        refine xx_iadd dX9_add_171 ?_
        refine xx_eqi (y := nI (yy_pad X la i + (yy_pad Y lb i) + cc)) (nI_add (yy_pad X la i + (yy_pad Y lb i)) cc) ?_
        refine xx_istore dX9_add_172 (by decide) ?_
        refine xx_clv (lv2 := [(0, .ref b), (1, .int (nI x)), (2, .int (nI y)), (4, .int (nI c)), (7, .int sm), (8, .int (nI M)), (9, .int (nI la)), (10, .int (nI lb)), (11, .int (nI cc)), (12, .int (nI i)), (13, .int (nI (yy_pad X la i + (yy_pad Y lb i) + cc)))]) rfl ?_
        refine xx_aload_n dX9_add_174 rfl ?_
        refine xx_get xx_c9 dX9_add_175 wf_X9_8 (j := 1) (by decide) hb2 rfl ?_
        refine xx_bipush (v := 40) dX9_add_178 (by decide) ?_
        refine xx_iload dX9_add_180 rfl ?_
        refine xx_imul dX9_add_182 ?_
        refine xx_eqi (y := nI (40 * c)) (pk_mul 40 c) ?_
        refine xx_iload dX9_add_183 rfl ?_
        refine xx_iadd dX9_add_185 ?_
        refine xx_eqi (y := nI (40 * c + i)) (nI_add (40 * c) i) ?_
        refine xx_iload dX9_add_186 rfl ?_
        refine xx_ldc (v := 65535) dX9_add_188 wk_X9_93 ?_
        refine xx_iand dX9_add_190 ?_
        refine xx_eqi (y := nI ((yy_pad X la i + (yy_pad Y lb i) + cc) % 65536)) (pk_andN (n := (yy_pad X la i + (yy_pad Y lb i) + cc)) (by omega) 16 (by decide)) ?_
        refine xx_iast dX9_add_191 y2 (vp_in_nI (by omega) (by decide)) (xx_gu fun C z1 h1 o1 => ?_)
        rw [nI_clamp (by omega)] at h1
        refine xx_iload dX9_add_192 rfl ?_
        refine xx_bipush (v := 16) dX9_add_194 (by decide) ?_
        refine xx_ishr dX9_add_196 ?_
        refine xx_eqi (y := nI ((yy_pad X la i + (yy_pad Y lb i) + cc) / 65536)) (pk_shrN (n := (yy_pad X la i + (yy_pad Y lb i) + cc)) (by omega) (16 &&& 31) 16 (by decide)) ?_
        refine xx_istore dX9_add_197 (by decide) ?_
        refine xx_clv (lv2 := [(0, .ref b), (1, .int (nI x)), (2, .int (nI y)), (4, .int (nI c)), (7, .int sm), (8, .int (nI M)), (9, .int (nI la)), (10, .int (nI lb)), (11, .int (nI ((yy_pad X la i + (yy_pad Y lb i) + cc) / 65536))), (12, .int (nI i)), (13, .int (nI (yy_pad X la i + (yy_pad Y lb i) + cc)))]) rfl ?_
        refine xx_iinc (v := nI (i + 1)) dX9_add_199 rfl (nI_1 i) (by decide) ?_
        refine xx_goto (tgt := 115) dX9_add_202 (by decide) ?_
        refine xx_less [0, 1, 2, 4, 7, 8, 9, 10, 11, 12] ?_
        refine xx_clv (lv2 := [(0, .ref b), (1, .int (nI x)), (2, .int (nI y)), (4, .int (nI c)), (7, .int sm), (8, .int (nI M)), (9, .int (nI la)), (10, .int (nI lb)), (11, .int (nI ((yy_pad X la i + yy_pad Y lb i + cc) / 65536))), (12, .int (nI (i + 1)))]) rfl ?_
        refine ih (i + 1) (by omega) C _ (yy_ud R i ((yy_pad X la i + yy_pad Y lb i + cc) % 65536)) ((yy_pad X la i + yy_pad Y lb i + cc) / 65536) (by omega) h1 (fun j hj => ?_) (fun j hj => (pk_un (by omega)).trans (y4 j (by omega))) (by omega) ?_ (fun q hq => (o1 q hq).trans (y7 q hq))
        · by_cases e : j = i
          · subst e; rw [pk_us, yy_ud_s]; exact ⟨Nat.mod_lt _ (by decide), rfl⟩
          · rw [pk_un (by omega), yy_ud_n e]; exact y3 j (by omega)
        · rw [yy_ud_val, Nat.pow_succ]
          have h9 := yy_stp _ cc (65536 ^ i) _ (yy_pad X la i + yy_pad Y lb i) ((yy_pad X la i + yy_pad Y lb i + cc) % 65536) ((yy_pad X la i + yy_pad Y lb i + cc) / 65536) 65536 y6 (by rw [Nat.mod_add_div]; omega)
          show _ = (yy_val 65536 (yy_pad X la) i + yy_pad X la i * 65536 ^ i) + (yy_val 65536 (yy_pad Y lb) i + yy_pad Y lb i * 65536 ^ i)
          rw [h9, Nat.add_mul]
          omega
set_option maxRecDepth 100000 in
theorem c_X9_addA {G : xx_G} {l : Launch} {A : xx_H} {b : Nat} {u0 : Value} {us : List Value} {x y c : Nat} {N : Nat → Int} {t : Int} {sm s5 s6 : Int32} {s3 : Value} (hb : A.2 b = xx_o 9 (u0 :: .ref (b + 1) :: .ref (b + 2) :: .ref (b + 3) :: us)) (hN : xx_rg A b N) (hx : x < 1740) (hy : y < 1740) (hc : c < 1740) (b1 : (N x).natAbs < 65536 ^ 39) (b2 : (N y).natAbs < 65536 ^ 39) (ht : t.natAbs = (N x).natAbs + (N y).natAbs) (hs : t ≠ 0 → sm = iz t.sign) : xx_X G l mX9_add 1 0 0 59 [(0, .ref b), (1, .int (nI x)), (2, .int (nI y)), (3, s3), (4, .int (nI c)), (5, .int s5), (6, .int s6)] [.int sm] A (fun q B => q = .inl none ∧ B.1 = A.1 ∧ xx_rg B b (yy_un N c t) ∧ ∀ q, q ≠ b + 1 → q ≠ b + 2 → q ≠ b + 3 → B.2 q = A.2 q) := by
  obtain ⟨f, g, h, hf, hg, hh, hN⟩ := hN
  obtain ⟨x1, la, x2, x3, X, x4, x5, x6⟩ := hN x hx
  obtain ⟨y1, lb, y2, y3, Y, y4, y5, y6⟩ := hN y hy
  have ka : la ≤ 39 := yy_l39 x5 (by rw [← x6]; exact b1)
  have kb : lb ≤ 39 := yy_l39 y5 (by rw [← y6]; exact b2)
  refine xx_istore dX9_add_59 (by decide) ?_
  refine xx_clv (lv2 := [(0, .ref b), (1, .int (nI x)), (2, .int (nI y)), (3, s3), (4, .int (nI c)), (5, .int s5), (6, .int s6), (7, .int sm)]) rfl ?_
  refine xx_aload_n dX9_add_61 rfl ?_
  refine xx_get xx_c9 dX9_add_62 wf_X9_14 (j := 2) (by decide) hb rfl ?_
  refine xx_iload_n dX9_add_65 rfl ?_
  refine xx_iald dX9_add_66 hg (vp_in_nI (by omega) (by decide)) ?_
  refine xx_eqi (y := nI la) (by rw [nI_clamp (by omega)]; exact x2) ?_
  refine xx_aload_n dX9_add_67 rfl ?_
  refine xx_get xx_c9 dX9_add_68 wf_X9_14 (j := 2) (by decide) hb rfl ?_
  refine xx_iload_n dX9_add_71 rfl ?_
  refine xx_iald dX9_add_72 hg (vp_in_nI (by omega) (by decide)) ?_
  refine xx_eqi (y := nI lb) (by rw [nI_clamp (by omega)]; exact y2) ?_
  refine xx_icmp_le (tgt := 85) dX9_add_73 (by decide) (fun j73 => ?_) (fun j73 => ?_)
  · have j73 : la ≤ lb := (nI_leI (a := la) (b := lb) (by omega) (by omega)).mp j73
    refine xx_aload_n dX9_add_85 rfl ?_
    refine xx_get xx_c9 dX9_add_86 wf_X9_14 (j := 2) (by decide) hb rfl ?_
    refine xx_iload_n dX9_add_89 rfl ?_
    refine xx_iald dX9_add_90 hg (vp_in_nI (by omega) (by decide)) ?_
    refine xx_eqi (y := nI lb) (by rw [nI_clamp (by omega)]; exact y2) ?_
    refine xx_istore dX9_add_91 (by decide) ?_
    refine xx_clv (lv2 := [(0, .ref b), (1, .int (nI x)), (2, .int (nI y)), (3, s3), (4, .int (nI c)), (5, .int s5), (6, .int s6), (7, .int sm), (8, .int (nI lb))]) rfl ?_
    refine xx_aload_n dX9_add_93 rfl ?_
    refine xx_get xx_c9 dX9_add_94 wf_X9_14 (j := 2) (by decide) hb rfl ?_
    refine xx_iload_n dX9_add_97 rfl ?_
    refine xx_iald dX9_add_98 hg (vp_in_nI (by omega) (by decide)) ?_
    refine xx_eqi (y := nI la) (by rw [nI_clamp (by omega)]; exact x2) ?_
    refine xx_istore dX9_add_99 (by decide) ?_
    refine xx_clv (lv2 := [(0, .ref b), (1, .int (nI x)), (2, .int (nI y)), (3, s3), (4, .int (nI c)), (5, .int s5), (6, .int s6), (7, .int sm), (8, .int (nI lb)), (9, .int (nI la))]) rfl ?_
    refine xx_aload_n dX9_add_101 rfl ?_
    refine xx_get xx_c9 dX9_add_102 wf_X9_14 (j := 2) (by decide) hb rfl ?_
    refine xx_iload_n dX9_add_105 rfl ?_
    refine xx_iald dX9_add_106 hg (vp_in_nI (by omega) (by decide)) ?_
    refine xx_eqi (y := nI lb) (by rw [nI_clamp (by omega)]; exact y2) ?_
    refine xx_istore dX9_add_107 (by decide) ?_
    refine xx_clv (lv2 := [(0, .ref b), (1, .int (nI x)), (2, .int (nI y)), (3, s3), (4, .int (nI c)), (5, .int s5), (6, .int s6), (7, .int sm), (8, .int (nI lb)), (9, .int (nI la)), (10, .int (nI lb))]) rfl ?_
    refine xx_iconst (v := 0) dX9_add_109 (by decide) ?_
    refine xx_istore dX9_add_110 (by decide) ?_
    refine xx_clv (lv2 := [(0, .ref b), (1, .int (nI x)), (2, .int (nI y)), (3, s3), (4, .int (nI c)), (5, .int s5), (6, .int s6), (7, .int sm), (8, .int (nI lb)), (9, .int (nI la)), (10, .int (nI lb)), (11, .int 0)]) rfl ?_
    refine xx_iconst (v := 0) dX9_add_112 (by decide) ?_
    refine xx_istore dX9_add_113 (by decide) ?_
    refine xx_clv (lv2 := [(0, .ref b), (1, .int (nI x)), (2, .int (nI y)), (3, s3), (4, .int (nI c)), (5, .int s5), (6, .int s6), (7, .int sm), (8, .int (nI lb)), (9, .int (nI la)), (10, .int (nI lb)), (11, .int 0), (12, .int 0)]) rfl ?_
    have v1 : yy_val 65536 (yy_pad X la) (lb + 1) = (N x).natAbs := (yy_pad_val (by omega)).trans x6.symm
    have v2 : yy_val 65536 (yy_pad Y lb) (lb + 1) = (N y).natAbs := (yy_pad_val (by omega)).trans y6.symm
    have w1 := yy_val_lt (β := 65536) (D := X) (n := la) (fun i hi => (x4 i hi).1)
    have w2 := yy_val_lt (β := 65536) (D := Y) (n := lb) (fun i hi => (y4 i hi).1)
    have w3 : 65536 ^ la ≤ 65536 ^ lb := Nat.pow_le_pow_right (by decide) (by omega)
    have w4 : 65536 ^ lb ≤ 65536 ^ lb := Nat.pow_le_pow_right (by decide) (by omega)
    refine xx_less [0, 1, 2, 4, 7, 8, 9, 10, 11, 12] ?_
    refine xx_clv (lv2 := [(0, .ref b), (1, .int (nI x)), (2, .int (nI y)), (4, .int (nI c)), (7, .int sm), (8, .int (nI lb)), (9, .int (nI la)), (10, .int (nI lb)), (11, .int (nI 0)), (12, .int (nI 0))]) rfl ?_
    refine l_X9_as (M := lb) (X := X) (Y := Y) (f := f) hb hx hy hc x3 y3 (by omega) x4 y4 (fun B f1 R cc z1 z2 z3 z4 z5 z6 z7 => ?_) (lb + 1) 0 (by omega) A f (fun _ => 0) 0 rfl hf (fun j hj => absurd hj (Nat.not_lt_zero j)) (fun _ _ => rfl) (by decide) (by show 0 + 0 * _ = 0 + 0; simp) (fun q _ => rfl)
    rw [v1, v2] at z6
    have w5 : cc = 0 := by
      apply Nat.eq_zero_of_not_pos; intro q
      have : 1 * 65536 ^ (lb + 1) ≤ cc * 65536 ^ (lb + 1) := Nat.mul_le_mul_right _ q
      rw [Nat.pow_succ] at this z6
      omega
    subst w5
    rw [Nat.zero_mul, Nat.add_zero] at z6
    have hb2 := (z7 b (by omega)).trans hb
    have hg2 := (z7 (b + 2) (by omega)).trans hg
    have hh2 := (z7 (b + 3) (by omega)).trans hh
    refine xx_aload_n dX9_add_205 rfl ?_
    refine xx_get xx_c9 dX9_add_206 wf_X9_17 (j := 3) (by decide) hb2 rfl ?_
    refine xx_iload dX9_add_209 rfl ?_
    refine xx_iload dX9_add_211 rfl ?_
    refine xx_iast dX9_add_213 hh2 (vp_in_nI (by omega) (by decide)) (xx_gu fun C z8 h1 o1 => ?_)
    rw [nI_clamp (by omega)] at h1
    have hb3 := (o1 b (by omega)).trans hb2
    refine xx_aload_n dX9_add_214 rfl ?_
    refine xx_iload dX9_add_215 rfl ?_
    refine xx_iload dX9_add_217 rfl ?_
    refine xx_iconst (v := 1) dX9_add_219 (by decide) ?_
    refine xx_iadd dX9_add_220 ?_
    refine xx_eqi (y := nI (lb + 1)) (nI_add lb 1) ?_
    have ct := c_X9_trim (G := G) (l := l) (N := N) (v := t) hb3 ((o1 _ (by omega)).trans z2) ((o1 _ (by omega)).trans hg2) h1 (fun r hr e => (hN r hr).to (fun i hi => z4 _ (by omega)) rfl (pk_un e)) hc (show lb + 1 ≤ 40 by omega) z3 (ht.trans z6.symm) (fun q => pk_us.trans (hs q))
    refine xx_callV (N := mX9_trim) (vs := [.int (nI c), .int (nI (lb + 1))]) (b := b) (rest := []) (d2 := 0) (c2 := 0) (s2 := 0) (c3 := 0) (s3 := 0) dX9_add_221 wm_X9_94 wi_X9_trim wv_X9_trim (k := 9) rfl (by decide) hb3 nX9_trim ⟨pX9_trim, Nat.le_of_ble_eq_true rfl, by decide, Nat.le_of_ble_eq_true rfl, by decide, by decide⟩ (ct) (fun v9 D hC => ?_) (fun E9 B9 hC => absurd hC.1 (by simp))
    obtain ⟨hv9, k1, k2, k3⟩ := hC
    cases hv9
    refine xx_cst (st2 := []) rfl ?_
    exact xx_vret dX9_add_224 rfl ⟨rfl, by omega, k2, fun q a1 a2 a3 => (k3 q a2 a3).trans ((o1 q a3).trans (z7 q a1))⟩
  · have j73 : ¬ la ≤ lb := fun q => j73 ((nI_leI (a := la) (b := lb) (by omega) (by omega)).mpr q)
    refine xx_aload_n dX9_add_76 rfl ?_
    refine xx_get xx_c9 dX9_add_77 wf_X9_14 (j := 2) (by decide) hb rfl ?_
    refine xx_iload_n dX9_add_80 rfl ?_
    refine xx_iald dX9_add_81 hg (vp_in_nI (by omega) (by decide)) ?_
    refine xx_eqi (y := nI la) (by rw [nI_clamp (by omega)]; exact x2) ?_
    refine xx_goto (tgt := 91) dX9_add_82 (by decide) ?_
    refine xx_istore dX9_add_91 (by decide) ?_
    refine xx_clv (lv2 := [(0, .ref b), (1, .int (nI x)), (2, .int (nI y)), (3, s3), (4, .int (nI c)), (5, .int s5), (6, .int s6), (7, .int sm), (8, .int (nI la))]) rfl ?_
    refine xx_aload_n dX9_add_93 rfl ?_
    refine xx_get xx_c9 dX9_add_94 wf_X9_14 (j := 2) (by decide) hb rfl ?_
    refine xx_iload_n dX9_add_97 rfl ?_
    refine xx_iald dX9_add_98 hg (vp_in_nI (by omega) (by decide)) ?_
    refine xx_eqi (y := nI la) (by rw [nI_clamp (by omega)]; exact x2) ?_
    refine xx_istore dX9_add_99 (by decide) ?_
    refine xx_clv (lv2 := [(0, .ref b), (1, .int (nI x)), (2, .int (nI y)), (3, s3), (4, .int (nI c)), (5, .int s5), (6, .int s6), (7, .int sm), (8, .int (nI la)), (9, .int (nI la))]) rfl ?_
    refine xx_aload_n dX9_add_101 rfl ?_
    refine xx_get xx_c9 dX9_add_102 wf_X9_14 (j := 2) (by decide) hb rfl ?_
    refine xx_iload_n dX9_add_105 rfl ?_
    refine xx_iald dX9_add_106 hg (vp_in_nI (by omega) (by decide)) ?_
    refine xx_eqi (y := nI lb) (by rw [nI_clamp (by omega)]; exact y2) ?_
    refine xx_istore dX9_add_107 (by decide) ?_
    refine xx_clv (lv2 := [(0, .ref b), (1, .int (nI x)), (2, .int (nI y)), (3, s3), (4, .int (nI c)), (5, .int s5), (6, .int s6), (7, .int sm), (8, .int (nI la)), (9, .int (nI la)), (10, .int (nI lb))]) rfl ?_
    refine xx_iconst (v := 0) dX9_add_109 (by decide) ?_
    refine xx_istore dX9_add_110 (by decide) ?_
    refine xx_clv (lv2 := [(0, .ref b), (1, .int (nI x)), (2, .int (nI y)), (3, s3), (4, .int (nI c)), (5, .int s5), (6, .int s6), (7, .int sm), (8, .int (nI la)), (9, .int (nI la)), (10, .int (nI lb)), (11, .int 0)]) rfl ?_
    refine xx_iconst (v := 0) dX9_add_112 (by decide) ?_
    refine xx_istore dX9_add_113 (by decide) ?_
    refine xx_clv (lv2 := [(0, .ref b), (1, .int (nI x)), (2, .int (nI y)), (3, s3), (4, .int (nI c)), (5, .int s5), (6, .int s6), (7, .int sm), (8, .int (nI la)), (9, .int (nI la)), (10, .int (nI lb)), (11, .int 0), (12, .int 0)]) rfl ?_
    have v1 : yy_val 65536 (yy_pad X la) (la + 1) = (N x).natAbs := (yy_pad_val (by omega)).trans x6.symm
    have v2 : yy_val 65536 (yy_pad Y lb) (la + 1) = (N y).natAbs := (yy_pad_val (by omega)).trans y6.symm
    have w1 := yy_val_lt (β := 65536) (D := X) (n := la) (fun i hi => (x4 i hi).1)
    have w2 := yy_val_lt (β := 65536) (D := Y) (n := lb) (fun i hi => (y4 i hi).1)
    have w3 : 65536 ^ la ≤ 65536 ^ la := Nat.pow_le_pow_right (by decide) (by omega)
    have w4 : 65536 ^ lb ≤ 65536 ^ la := Nat.pow_le_pow_right (by decide) (by omega)
    refine xx_less [0, 1, 2, 4, 7, 8, 9, 10, 11, 12] ?_
    refine xx_clv (lv2 := [(0, .ref b), (1, .int (nI x)), (2, .int (nI y)), (4, .int (nI c)), (7, .int sm), (8, .int (nI la)), (9, .int (nI la)), (10, .int (nI lb)), (11, .int (nI 0)), (12, .int (nI 0))]) rfl ?_
    refine l_X9_as (M := la) (X := X) (Y := Y) (f := f) hb hx hy hc x3 y3 (by omega) x4 y4 (fun B f1 R cc z1 z2 z3 z4 z5 z6 z7 => ?_) (la + 1) 0 (by omega) A f (fun _ => 0) 0 rfl hf (fun j hj => absurd hj (Nat.not_lt_zero j)) (fun _ _ => rfl) (by decide) (by show 0 + 0 * _ = 0 + 0; simp) (fun q _ => rfl)
    rw [v1, v2] at z6
    have w5 : cc = 0 := by
      apply Nat.eq_zero_of_not_pos; intro q
      have : 1 * 65536 ^ (la + 1) ≤ cc * 65536 ^ (la + 1) := Nat.mul_le_mul_right _ q
      rw [Nat.pow_succ] at this z6
      omega
    subst w5
    rw [Nat.zero_mul, Nat.add_zero] at z6
    have hb2 := (z7 b (by omega)).trans hb
    have hg2 := (z7 (b + 2) (by omega)).trans hg
    have hh2 := (z7 (b + 3) (by omega)).trans hh
    refine xx_aload_n dX9_add_205 rfl ?_
    refine xx_get xx_c9 dX9_add_206 wf_X9_17 (j := 3) (by decide) hb2 rfl ?_
    refine xx_iload dX9_add_209 rfl ?_
    refine xx_iload dX9_add_211 rfl ?_
    refine xx_iast dX9_add_213 hh2 (vp_in_nI (by omega) (by decide)) (xx_gu fun C z8 h1 o1 => ?_)
    rw [nI_clamp (by omega)] at h1
    have hb3 := (o1 b (by omega)).trans hb2
    refine xx_aload_n dX9_add_214 rfl ?_
    refine xx_iload dX9_add_215 rfl ?_
    refine xx_iload dX9_add_217 rfl ?_
    refine xx_iconst (v := 1) dX9_add_219 (by decide) ?_
    refine xx_iadd dX9_add_220 ?_
    refine xx_eqi (y := nI (la + 1)) (nI_add la 1) ?_
    have ct := c_X9_trim (G := G) (l := l) (N := N) (v := t) hb3 ((o1 _ (by omega)).trans z2) ((o1 _ (by omega)).trans hg2) h1 (fun r hr e => (hN r hr).to (fun i hi => z4 _ (by omega)) rfl (pk_un e)) hc (show la + 1 ≤ 40 by omega) z3 (ht.trans z6.symm) (fun q => pk_us.trans (hs q))
    refine xx_callV (N := mX9_trim) (vs := [.int (nI c), .int (nI (la + 1))]) (b := b) (rest := []) (d2 := 0) (c2 := 0) (s2 := 0) (c3 := 0) (s3 := 0) dX9_add_221 wm_X9_94 wi_X9_trim wv_X9_trim (k := 9) rfl (by decide) hb3 nX9_trim ⟨pX9_trim, Nat.le_of_ble_eq_true rfl, by decide, Nat.le_of_ble_eq_true rfl, by decide, by decide⟩ (ct) (fun v9 D hC => ?_) (fun E9 B9 hC => absurd hC.1 (by simp))
    obtain ⟨hv9, k1, k2, k3⟩ := hC
    cases hv9
    refine xx_cst (st2 := []) rfl ?_
    exact xx_vret dX9_add_224 rfl ⟨rfl, by omega, k2, fun q a1 a2 a3 => (k3 q a2 a3).trans ((o1 q a3).trans (z7 q a1))⟩
set_option maxRecDepth 100000 in
theorem l_X9_sb {G : xx_G} {l : Launch} {A : xx_H} {b : Nat} {u0 : Value} {us : List Value} {x y c la lb : Nat} {f : Nat → Int32} {X Y : Nat → Nat} {sm : Int32} {Q : Option Value ⊕ String → xx_H → Prop} (hb : A.2 b = xx_o 9 (u0 :: .ref (b + 1) :: .ref (b + 2) :: .ref (b + 3) :: us)) (hx : x < 1740) (hy : y < 1740) (hc : c < 1740) (hla : la ≤ 40) (hlb : lb ≤ 40) (hX : ∀ i, i < la → X i < 65536 ∧ f (40 * x + i) = nI (X i)) (hY : ∀ i, i < lb → Y i < 65536 ∧ f (40 * y + i) = nI (Y i)) (k : ∀ (B : xx_H) (f1 : Nat → Int32) (R : Nat → Nat) (cc : Nat), B.1 = A.1 → B.2 (b + 1) = xx_i 69600 f1 → (∀ j, j < la → R j < 65536 ∧ f1 (40 * c + j) = nI (R j)) → (∀ j, j < 40 * c ∨ 40 * c + la ≤ j → f1 j = f j) → cc ≤ 1 → yy_val 65536 R la + yy_val 65536 (yy_pad Y lb) la = yy_val 65536 X la + cc * 65536 ^ la → (∀ q, q ≠ b + 1 → B.2 q = A.2 q) → xx_X G l mX9_add 1 0 0 381 [(0, .ref b), (4, .int (nI c)), (10, .int sm), (11, .int (nI la))] [] B Q) :
    ∀ (t i : Nat), i + t = la → ∀ (B : xx_H) (f1 : Nat → Int32) (R : Nat → Nat) (cc : Nat), B.1 = A.1 → B.2 (b + 1) = xx_i 69600 f1 → (∀ j, j < i → R j < 65536 ∧ f1 (40 * c + j) = nI (R j)) → (∀ j, j < 40 * c ∨ 40 * c + i ≤ j → f1 j = f j) → cc ≤ 1 → yy_val 65536 R i + yy_val 65536 (yy_pad Y lb) i = yy_val 65536 X i + cc * 65536 ^ i → (∀ q, q ≠ b + 1 → B.2 q = A.2 q) → xx_X G l mX9_add 1 0 0 295 [(0, .ref b), (4, .int (nI c)), (8, .int (nI x)), (9, .int (nI y)), (10, .int sm), (11, .int (nI la)), (12, .int (nI lb)), (13, .int (nI cc)), (14, .int (nI i))] [] B Q := by
  intro t
  induction t with
  | zero =>
    intro i hi B f1 R cc y1 y2 y3 y4 y5 y6 y7
    have : i = la := by omega
    subst this
    refine xx_iload dX9_add_295 rfl ?_
    refine xx_iload dX9_add_297 rfl ?_
    refine xx_icmp_ge (tgt := 381) dX9_add_299 (by decide) (fun j299 => ?_) (fun h => absurd (Int32.le_refl _) h)
    refine xx_less [0, 4, 10, 11] ?_
    refine xx_clv (lv2 := [(0, .ref b), (4, .int (nI c)), (10, .int sm), (11, .int (nI i))]) rfl ?_
    exact k B f1 R cc y1 y2 y3 y4 y5 y6 y7
  | succ t ih =>
    intro i hi B f1 R cc y1 y2 y3 y4 y5 y6 y7
    have hb2 := (y7 b (by omega)).trans hb
    obtain ⟨px, qx⟩ := hX i (by omega)
    have qx : f1 (40 * x + i) = nI (X i) := (y4 _ (by omega)).trans qx
    have py : yy_pad Y lb i < 65536 := yy_padb (by decide) (fun j hj => (hY j hj).1) i
    obtain ⟨z, hz⟩ : ∃ z : Int, z = (X i : Int) - (yy_pad Y lb i : Int) - (cc : Int) := ⟨_, rfl⟩
    refine xx_iload dX9_add_295 rfl ?_
    refine xx_iload dX9_add_297 rfl ?_
    refine xx_icmp_ge (tgt := 381) dX9_add_299 (by decide) (fun h => absurd h (nI_ge (by omega) (by omega))) (fun j299 => ?_)
    refine xx_aload_n dX9_add_302 rfl ?_
    refine xx_get xx_c9 dX9_add_303 wf_X9_8 (j := 1) (by decide) hb2 rfl ?_
    refine xx_bipush (v := 40) dX9_add_306 (by decide) ?_
    refine xx_iload dX9_add_308 rfl ?_
    refine xx_imul dX9_add_310 ?_
    refine xx_eqi (y := nI (40 * x)) (pk_mul 40 x) ?_
    refine xx_iload dX9_add_311 rfl ?_
    refine xx_iadd dX9_add_313 ?_
    refine xx_eqi (y := nI (40 * x + i)) (nI_add (40 * x) i) ?_
    refine xx_iald dX9_add_314 y2 (vp_in_nI (by omega) (by decide)) ?_
    refine xx_eqi (y := nI (X i)) (by rw [nI_clamp (by omega)]; exact qx) ?_
    refine xx_iload dX9_add_315 rfl ?_
    refine xx_iload dX9_add_317 rfl ?_
    refine xx_icmp_ge (tgt := 338) dX9_add_319 (by decide) (fun j319 => ?_) (fun j319 => ?_)
    · have j319 : lb ≤ i := (nI_leI (a := lb) (b := i) (by omega) (by omega)).mp j319
      refine xx_iconst (v := 0) dX9_add_338 (by decide) ?_
      refine xx_eqi (y := nI (yy_pad Y lb i)) (by rw [yy_pad_z (by omega)]; exact nI_0.symm) ?_
      refine xx_isub dX9_add_339 ?_
      refine xx_iload dX9_add_340 rfl ?_
      refine xx_isub dX9_add_342 ?_
      refine xx_eqi (y := iz z) (by rw [hz, nI_iz, nI_iz, nI_iz, iz_sub, iz_sub]) ?_
      refine xx_istore dX9_add_343 (by decide) ?_
      refine xx_clv (lv2 := [(0, .ref b), (4, .int (nI c)), (8, .int (nI x)), (9, .int (nI y)), (10, .int sm), (11, .int (nI la)), (12, .int (nI lb)), (13, .int (nI cc)), (14, .int (nI i)), (15, .int (iz z))]) rfl ?_
      refine xx_iload dX9_add_345 rfl ?_
      refine xx_if_ge (tgt := 354) dX9_add_347 (by decide) (fun j347 => ?_) (fun j347 => ?_)
      · refine xx_iconst (v := 0) dX9_add_354 (by decide) ?_
        refine xx_istore dX9_add_355 (by decide) ?_
        refine xx_clv (lv2 := [(0, .ref b), (4, .int (nI c)), (8, .int (nI x)), (9, .int (nI y)), (10, .int sm), (11, .int (nI la)), (12, .int (nI lb)), (13, .int 0), (14, .int (nI i)), (15, .int (iz z))]) rfl ?_
        refine xx_aload_n dX9_add_357 rfl ?_
        refine xx_get xx_c9 dX9_add_358 wf_X9_8 (j := 1) (by decide) hb2 rfl ?_
        refine xx_bipush (v := 40) dX9_add_361 (by decide) ?_
        refine xx_iload dX9_add_363 rfl ?_
        refine xx_imul dX9_add_365 ?_
        refine xx_eqi (y := nI (40 * c)) (pk_mul 40 c) ?_
        refine xx_iload dX9_add_366 rfl ?_
        refine xx_iadd dX9_add_368 ?_
        refine xx_eqi (y := nI (40 * c + i)) (nI_add (40 * c) i) ?_
        refine xx_iload dX9_add_369 rfl ?_
        refine xx_ldc (v := 65535) dX9_add_371 wk_X9_93 ?_
        refine xx_iand dX9_add_373 ?_
        refine xx_eqi (y := nI (z % 65536).toNat) (iz_m16 z) ?_
        refine xx_iast dX9_add_374 y2 (vp_in_nI (by omega) (by decide)) (xx_gu fun C z1 h1 o1 => ?_)
        rw [nI_clamp (by omega)] at h1
        have jz : 0 ≤ z := by
          apply Int.not_lt.mp; intro q; exact absurd j347 (Int32.not_le.mpr ((iz_lt (a := z) (b := 0) (by omega) (by omega) (by decide) (by decide)).mpr q))
        have hr : (z % 65536).toNat + yy_pad Y lb i + cc = X i + 65536 * 0 := by omega
        have hrl : (z % 65536).toNat < 65536 := by omega
        generalize (z % 65536).toNat = r at hr hrl h1
        refine xx_iinc (v := nI (i + 1)) dX9_add_375 rfl (nI_1 i) (by decide) ?_
        refine xx_goto (tgt := 295) dX9_add_378 (by decide) ?_
        refine xx_less [0, 4, 8, 9, 10, 11, 12, 13, 14] ?_
        refine xx_clv (lv2 := [(0, .ref b), (4, .int (nI c)), (8, .int (nI x)), (9, .int (nI y)), (10, .int sm), (11, .int (nI la)), (12, .int (nI lb)), (13, .int (nI 0)), (14, .int (nI (i + 1)))]) rfl ?_
        refine ih (i + 1) (by omega) C _ (yy_ud R i r) 0 (by omega) h1 (fun j hj => ?_) (fun j hj => (pk_un (by omega)).trans (y4 j (by omega))) (by decide) ?_ (fun q hq => (o1 q hq).trans (y7 q hq))
        · by_cases e : j = i
          · subst e; rw [pk_us, yy_ud_s]; exact ⟨hrl, rfl⟩
          · rw [pk_un (by omega), yy_ud_n e]; exact y3 j (by omega)
        · rw [yy_ud_val, Nat.pow_succ]
          show _ + (yy_val 65536 (yy_pad Y lb) i + yy_pad Y lb i * 65536 ^ i) = (yy_val 65536 X i + X i * 65536 ^ i) + _
          exact yy_bstep y6 hr
      · refine xx_iconst (v := 1) dX9_add_350 (by decide) ?_
        refine xx_goto (tgt := 355) dX9_add_351 (by decide) ?_
        refine xx_istore dX9_add_355 (by decide) ?_
        refine xx_clv (lv2 := [(0, .ref b), (4, .int (nI c)), (8, .int (nI x)), (9, .int (nI y)), (10, .int sm), (11, .int (nI la)), (12, .int (nI lb)), (13, .int 1), (14, .int (nI i)), (15, .int (iz z))]) rfl ?_
        refine xx_aload_n dX9_add_357 rfl ?_
        refine xx_get xx_c9 dX9_add_358 wf_X9_8 (j := 1) (by decide) hb2 rfl ?_
        refine xx_bipush (v := 40) dX9_add_361 (by decide) ?_
        refine xx_iload dX9_add_363 rfl ?_
        refine xx_imul dX9_add_365 ?_
        refine xx_eqi (y := nI (40 * c)) (pk_mul 40 c) ?_
        refine xx_iload dX9_add_366 rfl ?_
        refine xx_iadd dX9_add_368 ?_
        refine xx_eqi (y := nI (40 * c + i)) (nI_add (40 * c) i) ?_
        refine xx_iload dX9_add_369 rfl ?_
        refine xx_ldc (v := 65535) dX9_add_371 wk_X9_93 ?_
        refine xx_iand dX9_add_373 ?_
        refine xx_eqi (y := nI (z % 65536).toNat) (iz_m16 z) ?_
        refine xx_iast dX9_add_374 y2 (vp_in_nI (by omega) (by decide)) (xx_gu fun C z1 h1 o1 => ?_)
        rw [nI_clamp (by omega)] at h1
        have jz : z < 0 := (iz_lt (a := z) (b := 0) (by omega) (by omega) (by decide) (by decide)).mp (Int32.not_le.mp j347)
        have hr : (z % 65536).toNat + yy_pad Y lb i + cc = X i + 65536 * 1 := by omega
        have hrl : (z % 65536).toNat < 65536 := by omega
        generalize (z % 65536).toNat = r at hr hrl h1
        refine xx_iinc (v := nI (i + 1)) dX9_add_375 rfl (nI_1 i) (by decide) ?_
        refine xx_goto (tgt := 295) dX9_add_378 (by decide) ?_
        refine xx_less [0, 4, 8, 9, 10, 11, 12, 13, 14] ?_
        refine xx_clv (lv2 := [(0, .ref b), (4, .int (nI c)), (8, .int (nI x)), (9, .int (nI y)), (10, .int sm), (11, .int (nI la)), (12, .int (nI lb)), (13, .int (nI 1)), (14, .int (nI (i + 1)))]) rfl ?_
        refine ih (i + 1) (by omega) C _ (yy_ud R i r) 1 (by omega) h1 (fun j hj => ?_) (fun j hj => (pk_un (by omega)).trans (y4 j (by omega))) (by decide) ?_ (fun q hq => (o1 q hq).trans (y7 q hq))
        · by_cases e : j = i
          · subst e; rw [pk_us, yy_ud_s]; exact ⟨hrl, rfl⟩
          · rw [pk_un (by omega), yy_ud_n e]; exact y3 j (by omega)
        · rw [yy_ud_val, Nat.pow_succ]
          show _ + (yy_val 65536 (yy_pad Y lb) i + yy_pad Y lb i * 65536 ^ i) = (yy_val 65536 X i + X i * 65536 ^ i) + _
          exact yy_bstep y6 hr
    · have j319 : ¬ lb ≤ i := fun q => j319 ((nI_leI (a := lb) (b := i) (by omega) (by omega)).mpr q)
      refine xx_aload_n dX9_add_322 rfl ?_
      refine xx_get xx_c9 dX9_add_323 wf_X9_8 (j := 1) (by decide) hb2 rfl ?_
      refine xx_bipush (v := 40) dX9_add_326 (by decide) ?_
      refine xx_iload dX9_add_328 rfl ?_
      refine xx_imul dX9_add_330 ?_
      refine xx_eqi (y := nI (40 * y)) (pk_mul 40 y) ?_
      refine xx_iload dX9_add_331 rfl ?_
      refine xx_iadd dX9_add_333 ?_
      refine xx_eqi (y := nI (40 * y + i)) (nI_add (40 * y) i) ?_
      have q2 : f1 (40 * y + i) = nI (Y i) := (y4 _ (by omega)).trans (hY i (by omega)).2
      refine xx_iald dX9_add_334 y2 (vp_in_nI (by omega) (by decide)) ?_
      refine xx_eqi (y := nI (Y i)) (by rw [nI_clamp (by omega)]; exact q2) ?_
      refine xx_goto (tgt := 339) dX9_add_335 (by decide) ?_
      refine xx_eqi (y := nI (yy_pad Y lb i)) (by rw [yy_pad_s (by omega)]) ?_
      refine xx_isub dX9_add_339 ?_
      refine xx_iload dX9_add_340 rfl ?_
      refine xx_isub dX9_add_342 ?_
      refine xx_eqi (y := iz z) (by rw [hz, nI_iz, nI_iz, nI_iz, iz_sub, iz_sub]) ?_
      refine xx_istore dX9_add_343 (by decide) ?_
      refine xx_clv (lv2 := [(0, .ref b), (4, .int (nI c)), (8, .int (nI x)), (9, .int (nI y)), (10, .int sm), (11, .int (nI la)), (12, .int (nI lb)), (13, .int (nI cc)), (14, .int (nI i)), (15, .int (iz z))]) rfl ?_
      refine xx_iload dX9_add_345 rfl ?_
      refine xx_if_ge (tgt := 354) dX9_add_347 (by decide) (fun j347 => ?_) (fun j347 => ?_)
      · refine xx_iconst (v := 0) dX9_add_354 (by decide) ?_
        refine xx_istore dX9_add_355 (by decide) ?_
        refine xx_clv (lv2 := [(0, .ref b), (4, .int (nI c)), (8, .int (nI x)), (9, .int (nI y)), (10, .int sm), (11, .int (nI la)), (12, .int (nI lb)), (13, .int 0), (14, .int (nI i)), (15, .int (iz z))]) rfl ?_
        refine xx_aload_n dX9_add_357 rfl ?_
        refine xx_get xx_c9 dX9_add_358 wf_X9_8 (j := 1) (by decide) hb2 rfl ?_
        refine xx_bipush (v := 40) dX9_add_361 (by decide) ?_
        refine xx_iload dX9_add_363 rfl ?_
        refine xx_imul dX9_add_365 ?_
        refine xx_eqi (y := nI (40 * c)) (pk_mul 40 c) ?_
        refine xx_iload dX9_add_366 rfl ?_
        refine xx_iadd dX9_add_368 ?_
        refine xx_eqi (y := nI (40 * c + i)) (nI_add (40 * c) i) ?_
        refine xx_iload dX9_add_369 rfl ?_
        refine xx_ldc (v := 65535) dX9_add_371 wk_X9_93 ?_
        refine xx_iand dX9_add_373 ?_
        refine xx_eqi (y := nI (z % 65536).toNat) (iz_m16 z) ?_
        refine xx_iast dX9_add_374 y2 (vp_in_nI (by omega) (by decide)) (xx_gu fun C z1 h1 o1 => ?_)
        rw [nI_clamp (by omega)] at h1
        have jz : 0 ≤ z := by
          apply Int.not_lt.mp; intro q; exact absurd j347 (Int32.not_le.mpr ((iz_lt (a := z) (b := 0) (by omega) (by omega) (by decide) (by decide)).mpr q))
        have hr : (z % 65536).toNat + yy_pad Y lb i + cc = X i + 65536 * 0 := by omega
        have hrl : (z % 65536).toNat < 65536 := by omega
        generalize (z % 65536).toNat = r at hr hrl h1
        refine xx_iinc (v := nI (i + 1)) dX9_add_375 rfl (nI_1 i) (by decide) ?_
        refine xx_goto (tgt := 295) dX9_add_378 (by decide) ?_
        refine xx_less [0, 4, 8, 9, 10, 11, 12, 13, 14] ?_
        refine xx_clv (lv2 := [(0, .ref b), (4, .int (nI c)), (8, .int (nI x)), (9, .int (nI y)), (10, .int sm), (11, .int (nI la)), (12, .int (nI lb)), (13, .int (nI 0)), (14, .int (nI (i + 1)))]) rfl ?_
        refine ih (i + 1) (by omega) C _ (yy_ud R i r) 0 (by omega) h1 (fun j hj => ?_) (fun j hj => (pk_un (by omega)).trans (y4 j (by omega))) (by decide) ?_ (fun q hq => (o1 q hq).trans (y7 q hq))
        · by_cases e : j = i
          · subst e; rw [pk_us, yy_ud_s]; exact ⟨hrl, rfl⟩
          · rw [pk_un (by omega), yy_ud_n e]; exact y3 j (by omega)
        · rw [yy_ud_val, Nat.pow_succ]
          show _ + (yy_val 65536 (yy_pad Y lb) i + yy_pad Y lb i * 65536 ^ i) = (yy_val 65536 X i + X i * 65536 ^ i) + _
          exact yy_bstep y6 hr
      · refine xx_iconst (v := 1) dX9_add_350 (by decide) ?_
        refine xx_goto (tgt := 355) dX9_add_351 (by decide) ?_
        refine xx_istore dX9_add_355 (by decide) ?_
        refine xx_clv (lv2 := [(0, .ref b), (4, .int (nI c)), (8, .int (nI x)), (9, .int (nI y)), (10, .int sm), (11, .int (nI la)), (12, .int (nI lb)), (13, .int 1), (14, .int (nI i)), (15, .int (iz z))]) rfl ?_
        refine xx_aload_n dX9_add_357 rfl ?_
        refine xx_get xx_c9 dX9_add_358 wf_X9_8 (j := 1) (by decide) hb2 rfl ?_
        refine xx_bipush (v := 40) dX9_add_361 (by decide) ?_
        refine xx_iload dX9_add_363 rfl ?_
        refine xx_imul dX9_add_365 ?_
        refine xx_eqi (y := nI (40 * c)) (pk_mul 40 c) ?_
        refine xx_iload dX9_add_366 rfl ?_
        refine xx_iadd dX9_add_368 ?_
        refine xx_eqi (y := nI (40 * c + i)) (nI_add (40 * c) i) ?_
        refine xx_iload dX9_add_369 rfl ?_
        refine xx_ldc (v := 65535) dX9_add_371 wk_X9_93 ?_
        refine xx_iand dX9_add_373 ?_
        refine xx_eqi (y := nI (z % 65536).toNat) (iz_m16 z) ?_
        refine xx_iast dX9_add_374 y2 (vp_in_nI (by omega) (by decide)) (xx_gu fun C z1 h1 o1 => ?_)
        rw [nI_clamp (by omega)] at h1
        have jz : z < 0 := (iz_lt (a := z) (b := 0) (by omega) (by omega) (by decide) (by decide)).mp (Int32.not_le.mp j347)
        have hr : (z % 65536).toNat + yy_pad Y lb i + cc = X i + 65536 * 1 := by omega
        have hrl : (z % 65536).toNat < 65536 := by omega
        generalize (z % 65536).toNat = r at hr hrl h1
        refine xx_iinc (v := nI (i + 1)) dX9_add_375 rfl (nI_1 i) (by decide) ?_
        refine xx_goto (tgt := 295) dX9_add_378 (by decide) ?_
        refine xx_less [0, 4, 8, 9, 10, 11, 12, 13, 14] ?_
        refine xx_clv (lv2 := [(0, .ref b), (4, .int (nI c)), (8, .int (nI x)), (9, .int (nI y)), (10, .int sm), (11, .int (nI la)), (12, .int (nI lb)), (13, .int (nI 1)), (14, .int (nI (i + 1)))]) rfl ?_
        refine ih (i + 1) (by omega) C _ (yy_ud R i r) 1 (by omega) h1 (fun j hj => ?_) (fun j hj => (pk_un (by omega)).trans (y4 j (by omega))) (by decide) ?_ (fun q hq => (o1 q hq).trans (y7 q hq))
        · by_cases e : j = i
          · subst e; rw [pk_us, yy_ud_s]; exact ⟨hrl, rfl⟩
          · rw [pk_un (by omega), yy_ud_n e]; exact y3 j (by omega)
        · rw [yy_ud_val, Nat.pow_succ]
          show _ + (yy_val 65536 (yy_pad Y lb) i + yy_pad Y lb i * 65536 ^ i) = (yy_val 65536 X i + X i * 65536 ^ i) + _
          exact yy_bstep y6 hr
set_option maxRecDepth 100000 in
theorem c_X9_addB {G : xx_G} {l : Launch} {A : xx_H} {b : Nat} {u0 : Value} {us : List Value} {x y c : Nat} {N : Nat → Int} {t : Int} {sm : Int32} (hb : A.2 b = xx_o 9 (u0 :: .ref (b + 1) :: .ref (b + 2) :: .ref (b + 3) :: us)) (hN : xx_rg A b N) (hx : x < 1740) (hy : y < 1740) (hc : c < 1740) (hge : (N y).natAbs ≤ (N x).natAbs) (ht : t.natAbs = (N x).natAbs - (N y).natAbs) (hs : t ≠ 0 → sm = iz t.sign) : xx_X G l mX9_add 1 0 0 271 [(0, .ref b), (4, .int (nI c)), (8, .int (nI x)), (9, .int (nI y)), (10, .int sm)] [] A (fun q B => q = .inl none ∧ B.1 = A.1 ∧ xx_rg B b (yy_un N c t) ∧ ∀ q, q ≠ b + 1 → q ≠ b + 2 → q ≠ b + 3 → B.2 q = A.2 q) := by
  obtain ⟨f, g, h, hf, hg, hh, hN⟩ := hN
  obtain ⟨x1, la, x2, x3, X, x4, x5, x6⟩ := hN x hx
  obtain ⟨y1, lb, y2, y3, Y, y4, y5, y6⟩ := hN y hy
  have hlb : lb ≤ la := by
    apply Nat.le_of_not_lt; intro q
    have := yy_l16 (D := X) (E := Y) (fun i hi => (x4 i hi).1) y5 q
    omega
  refine xx_aload_n dX9_add_271 rfl ?_
  refine xx_get xx_c9 dX9_add_272 wf_X9_14 (j := 2) (by decide) hb rfl ?_
  refine xx_iload dX9_add_275 rfl ?_
  refine xx_iald dX9_add_277 hg (vp_in_nI (by omega) (by decide)) ?_
  refine xx_eqi (y := nI la) (by rw [nI_clamp (by omega)]; exact x2) ?_
  refine xx_istore dX9_add_278 (by decide) ?_
  refine xx_clv (lv2 := [(0, .ref b), (4, .int (nI c)), (8, .int (nI x)), (9, .int (nI y)), (10, .int sm), (11, .int (nI la))]) rfl ?_
  refine xx_aload_n dX9_add_280 rfl ?_
  refine xx_get xx_c9 dX9_add_281 wf_X9_14 (j := 2) (by decide) hb rfl ?_
  refine xx_iload dX9_add_284 rfl ?_
  refine xx_iald dX9_add_286 hg (vp_in_nI (by omega) (by decide)) ?_
  refine xx_eqi (y := nI lb) (by rw [nI_clamp (by omega)]; exact y2) ?_
  refine xx_istore dX9_add_287 (by decide) ?_
  refine xx_clv (lv2 := [(0, .ref b), (4, .int (nI c)), (8, .int (nI x)), (9, .int (nI y)), (10, .int sm), (11, .int (nI la)), (12, .int (nI lb))]) rfl ?_
  refine xx_iconst (v := 0) dX9_add_289 (by decide) ?_
  refine xx_istore dX9_add_290 (by decide) ?_
  refine xx_clv (lv2 := [(0, .ref b), (4, .int (nI c)), (8, .int (nI x)), (9, .int (nI y)), (10, .int sm), (11, .int (nI la)), (12, .int (nI lb)), (13, .int 0)]) rfl ?_
  refine xx_iconst (v := 0) dX9_add_292 (by decide) ?_
  refine xx_istore dX9_add_293 (by decide) ?_
  refine xx_clv (lv2 := [(0, .ref b), (4, .int (nI c)), (8, .int (nI x)), (9, .int (nI y)), (10, .int sm), (11, .int (nI la)), (12, .int (nI lb)), (13, .int 0), (14, .int 0)]) rfl ?_
  have v2 : yy_val 65536 (yy_pad Y lb) la = (N y).natAbs := (yy_pad_val hlb).trans y6.symm
  refine xx_clv (lv2 := [(0, .ref b), (4, .int (nI c)), (8, .int (nI x)), (9, .int (nI y)), (10, .int sm), (11, .int (nI la)), (12, .int (nI lb)), (13, .int (nI 0)), (14, .int (nI 0))]) rfl ?_
  refine l_X9_sb (X := X) (Y := Y) (f := f) hb hx hy hc x3 y3 x4 y4 (fun B f1 R cc z1 z2 z3 z4 z5 z6 z7 => ?_) la 0 (by omega) A f (fun _ => 0) 0 rfl hf (fun j hj => absurd hj (Nat.not_lt_zero j)) (fun _ _ => rfl) (by decide) (by show 0 + 0 = 0 + 0 * _; simp) (fun q _ => rfl)
  rw [v2, ← x6] at z6
  have w1 := yy_val_lt (β := 65536) (D := R) (n := la) (fun i hi => (z3 i hi).1)
  have w5 : cc = 0 := by
    apply Nat.eq_zero_of_not_pos; intro q
    have : 1 * 65536 ^ la ≤ cc * 65536 ^ la := Nat.mul_le_mul_right _ q
    omega
  subst w5
  rw [Nat.zero_mul, Nat.add_zero] at z6
  have hb2 := (z7 b (by omega)).trans hb
  have hg2 := (z7 (b + 2) (by omega)).trans hg
  have hh2 := (z7 (b + 3) (by omega)).trans hh
  refine xx_aload_n dX9_add_381 rfl ?_
  refine xx_get xx_c9 dX9_add_382 wf_X9_17 (j := 3) (by decide) hb2 rfl ?_
  refine xx_iload dX9_add_385 rfl ?_
  refine xx_iload dX9_add_387 rfl ?_
  refine xx_iast dX9_add_389 hh2 (vp_in_nI (by omega) (by decide)) (xx_gu fun C z8 h1 o1 => ?_)
  rw [nI_clamp (by omega)] at h1
  have hb3 := (o1 b (by omega)).trans hb2
  refine xx_aload_n dX9_add_390 rfl ?_
  refine xx_iload dX9_add_391 rfl ?_
  refine xx_iload dX9_add_393 rfl ?_
  have ct := c_X9_trim (G := G) (l := l) (N := N) (v := t) hb3 ((o1 _ (by omega)).trans z2) ((o1 _ (by omega)).trans hg2) h1 (fun r hr e => (hN r hr).to (fun i hi => z4 _ (by omega)) rfl (pk_un e)) hc x3 z3 (by omega) (fun q => pk_us.trans (hs q))
  refine xx_callV (N := mX9_trim) (vs := [.int (nI c), .int (nI la)]) (b := b) (rest := []) (d2 := 0) (c2 := 0) (s2 := 0) (c3 := 0) (s3 := 0) dX9_add_395 wm_X9_94 wi_X9_trim wv_X9_trim (k := 9) rfl (by decide) hb3 nX9_trim ⟨pX9_trim, Nat.le_of_ble_eq_true rfl, by decide, Nat.le_of_ble_eq_true rfl, by decide, by decide⟩ (ct) (fun v9 D hC => ?_) (fun E9 B9 hC => absurd hC.1 (by simp))
  obtain ⟨hv9, k1, k2, k3⟩ := hC
  cases hv9
  refine xx_cst (st2 := []) rfl ?_
  exact xx_vret dX9_add_398 rfl ⟨rfl, by omega, k2, fun q a1 a2 a3 => (k3 q a2 a3).trans ((o1 q a3).trans (z7 q a1))⟩
theorem yy_ad1 (u w : Int) (h : u.sign = 0 ∨ w.sign = 0 ∨ u.sign = w.sign) : (u + w).natAbs = u.natAbs + w.natAbs ∧ (u + w ≠ 0 → (if u.sign = 0 then w.sign else u.sign) = (u + w).sign) := by
  rcases yy_sgn u with ⟨hu, su⟩ | ⟨hu, su⟩ | ⟨hu, su⟩ <;> rcases yy_sgn w with ⟨hw, sw⟩ | ⟨hw, sw⟩ | ⟨hw, sw⟩ <;> rw [su, sw] at h ⊢ <;> first
    | exact absurd h (by decide)
    | (refine ⟨by omega, fun _ => ?_⟩
       first
         | (rw [Int.sign_eq_neg_one_of_neg (a := u + w) (by omega)]; rfl)
         | (rw [Int.sign_eq_one_of_pos (a := u + w) (by omega)]; rfl)
         | (exfalso; omega))
theorem yy_ad2 (u w : Int) (h1 : ¬ u.sign = 0) (h2 : ¬ w.sign = 0) (h : ¬ u.sign = w.sign) : (w.natAbs ≤ u.natAbs → (u + w).natAbs = u.natAbs - w.natAbs ∧ (u + w ≠ 0 → u.sign = (u + w).sign)) ∧ (u.natAbs < w.natAbs → (u + w).natAbs = w.natAbs - u.natAbs ∧ (u + w ≠ 0 → w.sign = (u + w).sign)) := by
  rcases yy_sgn u with ⟨hu, su⟩ | ⟨hu, su⟩ | ⟨hu, su⟩ <;> rcases yy_sgn w with ⟨hw, sw⟩ | ⟨hw, sw⟩ | ⟨hw, sw⟩ <;> rw [su] at h1 <;> rw [sw] at h2 <;> rw [su, sw] at h ⊢ <;> first
    | exact absurd rfl h1
    | exact absurd rfl h2
    | exact absurd rfl h
    | (refine ⟨fun h5 => ⟨by omega, fun h6 => ?_⟩, fun h5 => ⟨by omega, fun h6 => ?_⟩⟩ <;> first
         | (rw [Int.sign_eq_neg_one_of_neg (a := u + w) (by omega)])
         | (rw [Int.sign_eq_one_of_pos (a := u + w) (by omega)]))
theorem yy_s_eq (u w : Int) : iz u.sign = iz w.sign ↔ u.sign = w.sign := by
  rcases yy_sgn u with ⟨hu, su⟩ | ⟨hu, su⟩ | ⟨hu, su⟩ <;> rcases yy_sgn w with ⟨hw, sw⟩ | ⟨hw, sw⟩ | ⟨hw, sw⟩ <;> rw [su, sw] <;> decide
theorem yy_s_z (u : Int) : iz u.sign = 0 ↔ u.sign = 0 := by
  rcases yy_sgn u with ⟨hu, su⟩ | ⟨hu, su⟩ | ⟨hu, su⟩ <;> rw [su] <;> decide
set_option maxRecDepth 100000 in
theorem c_X9_add {G : xx_G} {l : Launch} {A : xx_H} {b : Nat} {u0 : Value} {us : List Value} {x y c : Nat} {N : Nat → Int} {mn : Bool} (hb : A.2 b = xx_o 9 (u0 :: .ref (b + 1) :: .ref (b + 2) :: .ref (b + 3) :: us)) (hN : xx_rg A b N) (hx : x < 1740) (hy : y < 1740) (hc : c < 1740) (b1 : (N x).natAbs < 65536 ^ 39) (b2 : (N y).natAbs < 65536 ^ 39) : xx_X G l mX9_add 2 0 0 0 (lv_args 0 [.ref b, .int (nI x), .int (nI y), .int (if mn then 1 else 0), .int (nI c)]) [] A (fun q B => q = .inl none ∧ B.1 = A.1 ∧ xx_rg B b (yy_un N c (N x + if mn then - N y else N y)) ∧ ∀ q, q ≠ b + 1 → q ≠ b + 2 → q ≠ b + 3 → B.2 q = A.2 q) := by
  have hN0 := hN
  obtain ⟨f, g, h, hf, hg, hh, hN⟩ := hN
  have x1 := (hN x hx).1
  have y1 := (hN y hy).1
  have J : ∀ (w : Int) (s3 : Value), w.natAbs = (N y).natAbs → xx_X G l mX9_add 2 0 0 22 [(0, .ref b), (1, .int (nI x)), (2, .int (nI y)), (3, s3), (4, .int (nI c)), (5, .int (iz w.sign))] [] A (fun q B => q = .inl none ∧ B.1 = A.1 ∧ xx_rg B b (yy_un N c (N x + w)) ∧ ∀ q, q ≠ b + 1 → q ≠ b + 2 → q ≠ b + 3 → B.2 q = A.2 q) := by
    intro w s3 hw
    refine xx_aload_n dX9_add_22 rfl ?_
    refine xx_get xx_c9 dX9_add_23 wf_X9_17 (j := 3) (by decide) hb rfl ?_
    refine xx_iload_n dX9_add_26 rfl ?_
    refine xx_iald dX9_add_27 hh (vp_in_nI (by omega) (by decide)) ?_
    refine xx_eqi (y := iz (N x).sign) (by rw [nI_clamp (by omega)]; exact x1) ?_
    refine xx_istore dX9_add_28 (by decide) ?_
    refine xx_clv (lv2 := [(0, .ref b), (1, .int (nI x)), (2, .int (nI y)), (3, s3), (4, .int (nI c)), (5, .int (iz w.sign)), (6, .int (iz (N x).sign))]) rfl ?_
    refine xx_iload dX9_add_30 rfl ?_
    refine xx_if_eq (tgt := 47) dX9_add_32 (by decide) (fun j32 => ?_) (fun j32 => ?_)
    · refine xx_iload dX9_add_47 rfl ?_
      refine xx_if_ne (tgt := 57) dX9_add_49 (by decide) (fun h => absurd j32 h) (fun j49 => ?_)
      refine xx_iload dX9_add_52 rfl ?_
      refine xx_goto (tgt := 59) dX9_add_54 (by decide) ?_
      obtain ⟨t1, t2⟩ := yy_ad1 (N x) w (Or.inl ((yy_s_z _).mp j32))
      refine xx_room (d2 := 1) (c2 := 0) (s2 := 0) (by decide) (by decide) (by decide) ?_
      exact c_X9_addA hb hN0 hx hy hc b1 b2 (by rw [t1, hw]) (fun q => by rw [← t2 q, if_pos ((yy_s_z _).mp j32)])
    · refine xx_iload dX9_add_35 rfl ?_
      refine xx_if_eq (tgt := 47) dX9_add_37 (by decide) (fun j37 => ?_) (fun j37 => ?_)
      · refine xx_iload dX9_add_47 rfl ?_
        refine xx_if_ne (tgt := 57) dX9_add_49 (by decide) (fun j49 => ?_) (fun h => absurd h j32)
        refine xx_iload dX9_add_57 rfl ?_
        obtain ⟨t1, t2⟩ := yy_ad1 (N x) w (Or.inr (Or.inl ((yy_s_z _).mp j37)))
        refine xx_room (d2 := 1) (c2 := 0) (s2 := 0) (by decide) (by decide) (by decide) ?_
        exact c_X9_addA hb hN0 hx hy hc b1 b2 (by rw [t1, hw]) (fun q => by rw [← t2 q, if_neg (fun q => j32 ((yy_s_z _).mpr q))])
      · refine xx_iload dX9_add_40 rfl ?_
        refine xx_iload dX9_add_42 rfl ?_
        refine xx_icmp_ne (tgt := 225) dX9_add_44 (by decide) (fun j44 => ?_) (fun j44 => ?_)
        · refine xx_aload_n dX9_add_225 rfl ?_
          refine xx_iload_n dX9_add_226 rfl ?_
          refine xx_iload_n dX9_add_227 rfl ?_
          refine xx_callV (N := mX9_compareSizes) (vs := [.int (nI x), .int (nI y)]) (b := b) (rest := []) (d2 := 0) (c2 := 0) (s2 := 0) (c3 := 0) (s3 := 0) dX9_add_228 wm_X9_89 wi_X9_compareSizes wv_X9_compareSizes (k := 9) rfl (by decide) hb nX9_compareSizes ⟨pX9_compareSizes, Nat.le_of_ble_eq_true rfl, by decide, Nat.le_of_ble_eq_true rfl, by decide, by decide⟩ (c_X9_compareSizes hb hN0 hx hy) (fun v9 B9 hC => ?_) (fun E9 B9 hC => absurd hC.1 (by simp))
          obtain ⟨hv9, e9⟩ := hC
          cases hv9
          refine xx_cst (st2 := [.int (yy_cmp (N x).natAbs (N y).natAbs)]) rfl ?_
          rw [e9]
          refine xx_istore dX9_add_231 (by decide) ?_
          refine xx_clv (lv2 := [(0, .ref b), (1, .int (nI x)), (2, .int (nI y)), (3, s3), (4, .int (nI c)), (5, .int (iz w.sign)), (6, .int (iz (N x).sign)), (7, .int (yy_cmp (N x).natAbs (N y).natAbs))]) rfl ?_
          refine xx_iload dX9_add_233 rfl ?_
          refine xx_if_lt (tgt := 242) dX9_add_235 (by decide) (fun j235 => ?_) (fun j235 => ?_)
          · refine xx_iload_n dX9_add_242 rfl ?_
            refine xx_istore dX9_add_243 (by decide) ?_
            refine xx_clv (lv2 := [(0, .ref b), (1, .int (nI x)), (2, .int (nI y)), (3, s3), (4, .int (nI c)), (5, .int (iz w.sign)), (6, .int (iz (N x).sign)), (7, .int (yy_cmp (N x).natAbs (N y).natAbs)), (8, .int (nI y))]) rfl ?_
            refine xx_iload dX9_add_245 rfl ?_
            refine xx_if_lt (tgt := 254) dX9_add_247 (by decide) (fun j247 => ?_) (fun h => absurd j235 h)
            refine xx_iload_n dX9_add_254 rfl ?_
            refine xx_istore dX9_add_255 (by decide) ?_
            refine xx_clv (lv2 := [(0, .ref b), (1, .int (nI x)), (2, .int (nI y)), (3, s3), (4, .int (nI c)), (5, .int (iz w.sign)), (6, .int (iz (N x).sign)), (7, .int (yy_cmp (N x).natAbs (N y).natAbs)), (8, .int (nI y)), (9, .int (nI x))]) rfl ?_
            refine xx_iload dX9_add_257 rfl ?_
            refine xx_if_lt (tgt := 267) dX9_add_259 (by decide) (fun j259 => ?_) (fun h => absurd j235 h)
            refine xx_iload dX9_add_267 rfl ?_
            refine xx_istore dX9_add_269 (by decide) ?_
            refine xx_clv (lv2 := [(0, .ref b), (1, .int (nI x)), (2, .int (nI y)), (3, s3), (4, .int (nI c)), (5, .int (iz w.sign)), (6, .int (iz (N x).sign)), (7, .int (yy_cmp (N x).natAbs (N y).natAbs)), (8, .int (nI y)), (9, .int (nI x)), (10, .int (iz w.sign))]) rfl ?_
            obtain ⟨t1, t2⟩ := yy_ad2 (N x) w (fun q => j32 ((yy_s_z _).mpr q)) (fun q => j37 ((yy_s_z _).mpr q)) (fun q => j44 ((yy_s_eq _ _).mpr q))
            rw [hw] at t1 t2
            refine xx_room (d2 := 1) (c2 := 0) (s2 := 0) (by decide) (by decide) (by decide) ?_
            refine xx_less [0, 4, 8, 9, 10] ?_
            have lt := yy_cmp_lt.mp j235
            obtain ⟨t3, t4⟩ := t2 lt
            refine xx_clv (lv2 := [(0, .ref b), (4, .int (nI c)), (8, .int (nI y)), (9, .int (nI x)), (10, .int (iz w.sign))]) rfl ?_
            exact c_X9_addB hb hN0 hy hx hc (Nat.le_of_lt lt) t3 (fun q => congrArg iz (t4 q))
          · refine xx_iload_n dX9_add_238 rfl ?_
            refine xx_goto (tgt := 243) dX9_add_239 (by decide) ?_
            refine xx_istore dX9_add_243 (by decide) ?_
            refine xx_clv (lv2 := [(0, .ref b), (1, .int (nI x)), (2, .int (nI y)), (3, s3), (4, .int (nI c)), (5, .int (iz w.sign)), (6, .int (iz (N x).sign)), (7, .int (yy_cmp (N x).natAbs (N y).natAbs)), (8, .int (nI x))]) rfl ?_
            refine xx_iload dX9_add_245 rfl ?_
            refine xx_if_lt (tgt := 254) dX9_add_247 (by decide) (fun h => absurd h j235) (fun j247 => ?_)
            refine xx_iload_n dX9_add_250 rfl ?_
            refine xx_goto (tgt := 255) dX9_add_251 (by decide) ?_
            refine xx_istore dX9_add_255 (by decide) ?_
            refine xx_clv (lv2 := [(0, .ref b), (1, .int (nI x)), (2, .int (nI y)), (3, s3), (4, .int (nI c)), (5, .int (iz w.sign)), (6, .int (iz (N x).sign)), (7, .int (yy_cmp (N x).natAbs (N y).natAbs)), (8, .int (nI x)), (9, .int (nI y))]) rfl ?_
            refine xx_iload dX9_add_257 rfl ?_
            refine xx_if_lt (tgt := 267) dX9_add_259 (by decide) (fun h => absurd h j235) (fun j259 => ?_)
            refine xx_iload dX9_add_262 rfl ?_
            refine xx_goto (tgt := 269) dX9_add_264 (by decide) ?_
            refine xx_istore dX9_add_269 (by decide) ?_
            refine xx_clv (lv2 := [(0, .ref b), (1, .int (nI x)), (2, .int (nI y)), (3, s3), (4, .int (nI c)), (5, .int (iz w.sign)), (6, .int (iz (N x).sign)), (7, .int (yy_cmp (N x).natAbs (N y).natAbs)), (8, .int (nI x)), (9, .int (nI y)), (10, .int (iz (N x).sign))]) rfl ?_
            obtain ⟨t1, t2⟩ := yy_ad2 (N x) w (fun q => j32 ((yy_s_z _).mpr q)) (fun q => j37 ((yy_s_z _).mpr q)) (fun q => j44 ((yy_s_eq _ _).mpr q))
            rw [hw] at t1 t2
            refine xx_room (d2 := 1) (c2 := 0) (s2 := 0) (by decide) (by decide) (by decide) ?_
            refine xx_less [0, 4, 8, 9, 10] ?_
            have ge : (N y).natAbs ≤ (N x).natAbs := Nat.le_of_not_lt (fun q => j235 (yy_cmp_lt.mpr q))
            obtain ⟨t3, t4⟩ := t1 ge
            refine xx_clv (lv2 := [(0, .ref b), (4, .int (nI c)), (8, .int (nI x)), (9, .int (nI y)), (10, .int (iz (N x).sign))]) rfl ?_
            exact c_X9_addB hb hN0 hx hy hc ge t3 (fun q => congrArg iz (t4 q))
        · refine xx_iload dX9_add_47 rfl ?_
          refine xx_if_ne (tgt := 57) dX9_add_49 (by decide) (fun j49 => ?_) (fun h => absurd h j32)
          refine xx_iload dX9_add_57 rfl ?_
          obtain ⟨t1, t2⟩ := yy_ad1 (N x) w (Or.inr (Or.inr ((yy_s_eq _ _).mp j44)))
          refine xx_room (d2 := 1) (c2 := 0) (s2 := 0) (by decide) (by decide) (by decide) ?_
          exact c_X9_addA hb hN0 hx hy hc b1 b2 (by rw [t1, hw]) (fun q => by rw [← t2 q, if_neg (fun q => j32 ((yy_s_z _).mpr q))])
  cases mn
  · refine xx_clv (lv2 := [(0, .ref b), (1, .int (nI x)), (2, .int (nI y)), (3, .int 0), (4, .int (nI c))]) rfl ?_
    refine xx_iload_n dX9_add_0 rfl ?_
    refine xx_if_eq (tgt := 14) dX9_add_1 (by decide) (fun j1 => ?_) (fun h => absurd (by decide) h)
    refine xx_aload_n dX9_add_14 rfl ?_
    refine xx_get xx_c9 dX9_add_15 wf_X9_17 (j := 3) (by decide) hb rfl ?_
    refine xx_iload_n dX9_add_18 rfl ?_
    refine xx_iald dX9_add_19 hh (vp_in_nI (by omega) (by decide)) ?_
    refine xx_eqi (y := iz (N y).sign) (by rw [nI_clamp (by omega)]; exact y1) ?_
    refine xx_istore dX9_add_20 (by decide) ?_
    refine xx_clv (lv2 := [(0, .ref b), (1, .int (nI x)), (2, .int (nI y)), (3, .int 0), (4, .int (nI c)), (5, .int (iz (N y).sign))]) rfl ?_
    exact J (N y) _ (by rfl)
  · refine xx_clv (lv2 := [(0, .ref b), (1, .int (nI x)), (2, .int (nI y)), (3, .int 1), (4, .int (nI c))]) rfl ?_
    refine xx_iload_n dX9_add_0 rfl ?_
    refine xx_if_eq (tgt := 14) dX9_add_1 (by decide) (fun h => absurd h (by decide)) (fun j1 => ?_)
    refine xx_aload_n dX9_add_4 rfl ?_
    refine xx_get xx_c9 dX9_add_5 wf_X9_17 (j := 3) (by decide) hb rfl ?_
    refine xx_iload_n dX9_add_8 rfl ?_
    refine xx_iald dX9_add_9 hh (vp_in_nI (by omega) (by decide)) ?_
    refine xx_eqi (y := iz (N y).sign) (by rw [nI_clamp (by omega)]; exact y1) ?_
    refine xx_ineg dX9_add_10 ?_
    refine xx_eqi (y := iz (- N y).sign) (yy_sg_neg _) ?_
    refine xx_goto (tgt := 20) dX9_add_11 (by decide) ?_
    refine xx_istore dX9_add_20 (by decide) ?_
    refine xx_clv (lv2 := [(0, .ref b), (1, .int (nI x)), (2, .int (nI y)), (3, .int 1), (4, .int (nI c)), (5, .int (iz (- N y).sign))]) rfl ?_
    exact J (- N y) _ (by rw [Int.natAbs_neg])
