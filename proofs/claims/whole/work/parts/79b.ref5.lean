/-! ===== the reference's divide, on ===== -/
theorem yy_lneg2 (a : Int) : -lz (a) = lz (-a) := (Int64.ofInt_neg a).symm
set_option maxRecDepth 100000 in
theorem l_X9_ms {G : xx_G} {l : Launch} {A : xx_H} {b : Nat} {th m n hr st hl en tu : Value} {c d na nb sh j Gd : Nat} {sg : Int32} {f g : Nat → Int32} {X Y : Nat → Nat} {Q : Option Value ⊕ String → xx_H → Prop} (hb : A.2 b = xx_o 9 (xx_mf b th m n hr st hl en tu)) (hy : A.2 (b + 18) = xx_i 42 g) (hj : j + nb ≤ 40) (hG : Gd < 65536) (hX : ∀ i, i ≤ nb → X i < 65536 ∧ f (j + i) = nI (X i)) (hY : ∀ i, i < nb → Y i < 65536 ∧ g i = nI (Y i)) (k : ∀ (B : xx_H) (f1 : Nat → Int32) (R : Nat → Nat) (cr : Int), B.1 = A.1 → B.2 (b + 17) = xx_i 42 f1 → (∀ w, w < nb → R w < 65536 ∧ f1 (j + w) = nI (R w)) → (∀ w, w < j ∨ j + nb ≤ w → f1 w = f w) → -65536 ≤ cr → cr ≤ 0 → ((yy_val 65536 R nb : Nat) : Int) + cr * ((65536 ^ nb : Nat) : Int) = ((yy_val 65536 X nb : Nat) : Int) - (Gd : Int) * ((yy_val 65536 Y nb : Nat) : Int) → (∀ q, q ≠ b + 17 → B.2 q = A.2 q) → xx_X G l mX9_divide 1 0 0 526 [(0, .ref b), (3, .int (nI c)), (4, .int (nI d)), (5, .int (nI na)), (6, .int (nI nb)), (7, .int sg), (8, .int (nI sh)), (9, .int (nI j)), (12, .long (lN Gd)), (18, .long (lz (-cr)))] [] B Q) :
    ∀ (t i : Nat), i + t = nb → ∀ (B : xx_H) (f1 : Nat → Int32) (R : Nat → Nat) (cr : Int), B.1 = A.1 → B.2 (b + 17) = xx_i 42 f1 → (∀ w, w < i → R w < 65536 ∧ f1 (j + w) = nI (R w)) → (∀ w, w < j ∨ j + i ≤ w → f1 w = f w) → -65536 ≤ cr → cr ≤ 0 → ((yy_val 65536 R i : Nat) : Int) + cr * ((65536 ^ i : Nat) : Int) = ((yy_val 65536 X i : Nat) : Int) - (Gd : Int) * ((yy_val 65536 Y i : Nat) : Int) → (∀ q, q ≠ b + 17 → B.2 q = A.2 q) → xx_X G l mX9_divide 1 0 0 460 [(0, .ref b), (3, .int (nI c)), (4, .int (nI d)), (5, .int (nI na)), (6, .int (nI nb)), (7, .int sg), (8, .int (nI sh)), (9, .int (nI j)), (12, .long (lN Gd)), (18, .long (lz (-cr))), (20, .int (nI i))] [] B Q := by
  intro t
  induction t with
  | zero =>
    intro i hi B f1 R cr y1 y2 y3 y4 y5 y6 y7 y8
    have : i = nb := by omega
    subst this
    refine xx_iload dX9_divide_460 rfl ?_
    refine xx_iload dX9_divide_462 rfl ?_
    refine xx_icmp_ge (tgt := 526) dX9_divide_464 (by decide) (fun j464 => ?_) (fun h => absurd (Int32.le_refl _) h)
    refine xx_less [0, 3, 4, 5, 6, 7, 8, 9, 12, 18] ?_
    refine xx_clv (lv2 := [(0, .ref b), (3, .int (nI c)), (4, .int (nI d)), (5, .int (nI na)), (6, .int (nI i)), (7, .int sg), (8, .int (nI sh)), (9, .int (nI j)), (12, .long (lN Gd)), (18, .long (lz (-cr)))]) rfl ?_
    exact k B f1 R cr y1 y2 y3 y4 y5 y6 y7 y8
  | succ t ih =>
    intro i hi B f1 R cr y1 y2 y3 y4 y5 y6 y7 y8
    have hb2 := (y8 b (by omega)).trans hb
    have hy2 := (y8 (b + 18) (by omega)).trans hy
    obtain ⟨p1, q1⟩ := hX i (by omega)
    have q1 : f1 (j + i) = nI (X i) := (y4 (j + i) (by omega)).trans q1
    obtain ⟨p2, q2⟩ := hY i (by omega)
    have hpr : Gd * Y i ≤ 65535 * 65535 := Nat.mul_le_mul (by omega) (by omega)
    obtain ⟨mm, hm⟩ : ∃ mm, mm = Gd * Y i := ⟨_, rfl⟩
    rw [← hm] at hpr
    obtain ⟨z, hz⟩ : ∃ z : Int, z = cr + ((X i : Int) - (mm : Int)) := ⟨_, rfl⟩
    refine xx_iload dX9_divide_460 rfl ?_
    refine xx_iload dX9_divide_462 rfl ?_
    refine xx_icmp_ge (tgt := 526) dX9_divide_464 (by decide) (fun h => absurd h (nI_ge (by omega) (by omega))) (fun j464 => ?_)
    refine xx_aload_n dX9_divide_467 rfl ?_
    refine xx_get xx_c9 dX9_divide_468 wf_X9_65 (j := 23) (by decide) hb2 rfl ?_
    refine xx_iload dX9_divide_471 rfl ?_
    refine xx_iload dX9_divide_473 rfl ?_
    refine xx_iadd dX9_divide_475 ?_
    refine xx_eqi (y := nI (j + i)) (nI_add j i) ?_
    refine xx_iald dX9_divide_476 y2 (vp_in_nI (by omega) (by decide)) ?_
    refine xx_eqi (y := nI (X i)) (by rw [nI_clamp (by omega)]; exact q1) ?_
    refine xx_i2l dX9_divide_477 ?_
    refine xx_eql (y := lN (X i)) (nI_l (by omega)) ?_
    refine xx_lload dX9_divide_478 rfl ?_
    refine xx_aload_n dX9_divide_480 rfl ?_
    refine xx_get xx_c9 dX9_divide_481 wf_X9_68 (j := 24) (by decide) hb2 rfl ?_
    refine xx_iload dX9_divide_484 rfl ?_
    refine xx_iald dX9_divide_486 hy2 (vp_in_nI (by omega) (by decide)) ?_
    refine xx_eqi (y := nI (Y i)) (by rw [nI_clamp (by omega)]; exact q2) ?_
    refine xx_i2l dX9_divide_487 ?_
    refine xx_eql (y := lN (Y i)) (nI_l (by omega)) ?_
    refine xx_lmul dX9_divide_488 ?_
    refine xx_eql (y := lN mm) ((lN_mul Gd (Y i)).trans (congrArg lN (by omega))) ?_
    refine xx_lsub dX9_divide_489 ?_
    refine xx_lload dX9_divide_490 rfl ?_
    refine xx_lsub dX9_divide_492 ?_
    refine xx_eql (y := lz z) (by rw [hz, lN_lz, lN_lz, lz_sub, lz_sub]; congr 1; omega) ?_
    refine xx_lstore dX9_divide_493 (by decide) ?_
    refine xx_clv (lv2 := [(0, .ref b), (3, .int (nI c)), (4, .int (nI d)), (5, .int (nI na)), (6, .int (nI nb)), (7, .int sg), (8, .int (nI sh)), (9, .int (nI j)), (12, .long (lN Gd)), (18, .long (lz (-cr))), (20, .int (nI i)), (21, .long (lz z))]) rfl ?_
    refine xx_aload_n dX9_divide_495 rfl ?_
    refine xx_get xx_c9 dX9_divide_496 wf_X9_65 (j := 23) (by decide) hb2 rfl ?_
    refine xx_iload dX9_divide_499 rfl ?_
    refine xx_iload dX9_divide_501 rfl ?_
    refine xx_iadd dX9_divide_503 ?_
    refine xx_eqi (y := nI (j + i)) (nI_add j i) ?_
    refine xx_lload dX9_divide_504 rfl ?_
    refine xx_ldc2 (v := 65535) dX9_divide_506 wk_X9_87 ?_
    refine xx_land dX9_divide_509 ?_
    refine xx_l2i dX9_divide_510 ?_
    refine xx_eqi (y := nI (z % 65536).toNat) (lz_lo16 z) ?_
    refine xx_iast dX9_divide_511 y2 (vp_in_nI (by omega) (by decide)) (xx_gu fun C z1 h1 o1 => ?_)
    rw [nI_clamp (by omega)] at h1
    refine xx_lload dX9_divide_512 rfl ?_
    refine xx_bipush (v := 16) dX9_divide_514 (by decide) ?_
    refine xx_lshr dX9_divide_516 ?_
    refine xx_eql (y := lz (z / 65536)) (lz_hi16 (by omega) (by omega)) ?_
    refine xx_lneg dX9_divide_517 ?_
    refine xx_eql (y := lz (-(z / 65536))) (yy_lneg2 _) ?_
    refine xx_lstore dX9_divide_518 (by decide) ?_
    refine xx_clv (lv2 := [(0, .ref b), (3, .int (nI c)), (4, .int (nI d)), (5, .int (nI na)), (6, .int (nI nb)), (7, .int sg), (8, .int (nI sh)), (9, .int (nI j)), (12, .long (lN Gd)), (18, .long (lz (-(z / 65536)))), (20, .int (nI i)), (21, .long (lz z))]) rfl ?_
    refine xx_iinc (v := nI (i + 1)) dX9_divide_520 rfl (nI_1 i) (by decide) ?_
    refine xx_goto (tgt := 460) dX9_divide_523 (by decide) ?_
    refine xx_less [0, 3, 4, 5, 6, 7, 8, 9, 12, 18, 20] ?_
    refine xx_clv (lv2 := [(0, .ref b), (3, .int (nI c)), (4, .int (nI d)), (5, .int (nI na)), (6, .int (nI nb)), (7, .int sg), (8, .int (nI sh)), (9, .int (nI j)), (12, .long (lN Gd)), (18, .long (lz (-(z / 65536)))), (20, .int (nI (i + 1)))]) rfl ?_
    refine ih (i + 1) (by omega) C _ (yy_ud R i (z % 65536).toNat) (z / 65536) (by omega) h1 (fun w hw => ?_) (fun w hw => (pk_un (by omega)).trans (y4 w (by omega))) (by omega) (by omega) ?_ (fun q hq => (o1 q hq).trans (y8 q hq))
    · by_cases e : w = i
      · subst e; rw [pk_us, yy_ud_s]; exact ⟨yy_tl16 _, rfl⟩
      · rw [pk_un (by omega), yy_ud_n e]; exact y3 w (by omega)
    · rw [yy_ud_val, Nat.pow_succ]
      have h8 : (((z % 65536).toNat : Nat) : Int) + 65536 * (z / 65536) = cr + ((X i : Int) - (mm : Int)) := by rw [← hz]; omega
      have h9 := yy_stz _ cr ((65536 ^ i : Nat) : Int) _ ((X i : Int) - (mm : Int)) _ _ 65536 y7 h8
      have e9 : yy_val 65536 X (i + 1) = yy_val 65536 X i + X i * 65536 ^ i := rfl
      have e8 : yy_val 65536 Y (i + 1) = yy_val 65536 Y i + Y i * 65536 ^ i := rfl
      rw [e9, e8]
      rw [hm] at h9
      generalize (z % 65536).toNat = r9 at h9 ⊢
      generalize z / 65536 = r8 at h9 ⊢
      simp only [Int.natCast_add, Int.natCast_mul] at h9 ⊢
      have e7 : ((65536 : Nat) : Int) = 65536 := rfl
      rw [e7, h9]
      generalize ((65536 ^ i : Nat) : Int) = P; grind
set_option maxRecDepth 100000 in
theorem l_X9_ab {G : xx_G} {l : Launch} {A : xx_H} {b : Nat} {th m n hr st hl en tu : Value} {c d na nb sh j Gd : Nat} {sg : Int32} {f g : Nat → Int32} {X Y : Nat → Nat} {Q : Option Value ⊕ String → xx_H → Prop} (hb : A.2 b = xx_o 9 (xx_mf b th m n hr st hl en tu)) (hy : A.2 (b + 18) = xx_i 42 g) (hj : j + nb ≤ 40) (hX : ∀ i, i ≤ nb → X i < 65536 ∧ f (j + i) = nI (X i)) (hY : ∀ i, i < nb → Y i < 65536 ∧ g i = nI (Y i)) (k : ∀ (B : xx_H) (f1 : Nat → Int32) (R : Nat → Nat) (cr : Nat), B.1 = A.1 → B.2 (b + 17) = xx_i 42 f1 → (∀ w, w < nb → R w < 65536 ∧ f1 (j + w) = nI (R w)) → (∀ w, w < j ∨ j + nb ≤ w → f1 w = f w) → cr ≤ 1 → yy_val 65536 R nb + cr * 65536 ^ nb = yy_val 65536 X nb + yy_val 65536 Y nb → (∀ q, q ≠ b + 17 → B.2 q = A.2 q) → xx_X G l mX9_divide 1 0 0 636 [(0, .ref b), (3, .int (nI c)), (4, .int (nI d)), (5, .int (nI na)), (6, .int (nI nb)), (7, .int sg), (8, .int (nI sh)), (9, .int (nI j)), (12, .long (lN Gd)), (22, .int (nI cr))] [] B Q) :
    ∀ (t i : Nat), i + t = nb → ∀ (B : xx_H) (f1 : Nat → Int32) (R : Nat → Nat) (cr : Nat), B.1 = A.1 → B.2 (b + 17) = xx_i 42 f1 → (∀ w, w < i → R w < 65536 ∧ f1 (j + w) = nI (R w)) → (∀ w, w < j ∨ j + i ≤ w → f1 w = f w) → cr ≤ 1 → yy_val 65536 R i + cr * 65536 ^ i = yy_val 65536 X i + yy_val 65536 Y i → (∀ q, q ≠ b + 17 → B.2 q = A.2 q) → xx_X G l mX9_divide 1 0 0 578 [(0, .ref b), (3, .int (nI c)), (4, .int (nI d)), (5, .int (nI na)), (6, .int (nI nb)), (7, .int sg), (8, .int (nI sh)), (9, .int (nI j)), (12, .long (lN Gd)), (22, .int (nI cr)), (23, .int (nI i))] [] B Q := by
  intro t
  induction t with
  | zero =>
    intro i hi B f1 R cr y1 y2 y3 y4 y5 y6 y7
    have : i = nb := by omega
    subst this
    refine xx_iload dX9_divide_578 rfl ?_
    refine xx_iload dX9_divide_580 rfl ?_
    refine xx_icmp_ge (tgt := 636) dX9_divide_582 (by decide) (fun j582 => ?_) (fun h => absurd (Int32.le_refl _) h)
    refine xx_less [0, 3, 4, 5, 6, 7, 8, 9, 12, 22] ?_
    refine xx_clv (lv2 := [(0, .ref b), (3, .int (nI c)), (4, .int (nI d)), (5, .int (nI na)), (6, .int (nI i)), (7, .int sg), (8, .int (nI sh)), (9, .int (nI j)), (12, .long (lN Gd)), (22, .int (nI cr))]) rfl ?_
    exact k B f1 R cr y1 y2 y3 y4 y5 y6 y7
  | succ t ih =>
    intro i hi B f1 R cr y1 y2 y3 y4 y5 y6 y7
    have hb2 := (y7 b (by omega)).trans hb
    have hy2 := (y7 (b + 18) (by omega)).trans hy
    obtain ⟨p1, q1⟩ := hX i (by omega)
    have q1 : f1 (j + i) = nI (X i) := (y4 (j + i) (by omega)).trans q1
    obtain ⟨p2, q2⟩ := hY i (by omega)
    refine xx_iload dX9_divide_578 rfl ?_
    refine xx_iload dX9_divide_580 rfl ?_
    refine xx_icmp_ge (tgt := 636) dX9_divide_582 (by decide) (fun h => absurd h (nI_ge (by omega) (by omega))) (fun j582 => ?_)
    refine xx_aload_n dX9_divide_585 rfl ?_
    refine xx_get xx_c9 dX9_divide_586 wf_X9_65 (j := 23) (by decide) hb2 rfl ?_
    refine xx_iload dX9_divide_589 rfl ?_
    refine xx_iload dX9_divide_591 rfl ?_
    refine xx_iadd dX9_divide_593 ?_
    refine xx_eqi (y := nI (j + i)) (nI_add j i) ?_
    refine xx_iald dX9_divide_594 y2 (vp_in_nI (by omega) (by decide)) ?_
    refine xx_eqi (y := nI (X i)) (by rw [nI_clamp (by omega)]; exact q1) ?_
    refine xx_aload_n dX9_divide_595 rfl ?_
    refine xx_get xx_c9 dX9_divide_596 wf_X9_68 (j := 24) (by decide) hb2 rfl ?_
    refine xx_iload dX9_divide_599 rfl ?_
    refine xx_iald dX9_divide_601 hy2 (vp_in_nI (by omega) (by decide)) ?_
    refine xx_eqi (y := nI (Y i)) (by rw [nI_clamp (by omega)]; exact q2) ?_
    refine xx_iadd dX9_divide_602 ?_
    refine xx_eqi (y := nI (X i + Y i)) ((nI_add (X i) (Y i)).trans (congrArg nI (by omega))) ?_
    refine xx_iload dX9_divide_603 rfl ?_
    refine xx_iadd dX9_divide_605 ?_
    refine xx_eqi (y := nI (X i + Y i + cr)) (nI_add (X i + Y i) cr) ?_
    refine xx_istore dX9_divide_606 (by decide) ?_
    refine xx_clv (lv2 := [(0, .ref b), (3, .int (nI c)), (4, .int (nI d)), (5, .int (nI na)), (6, .int (nI nb)), (7, .int sg), (8, .int (nI sh)), (9, .int (nI j)), (12, .long (lN Gd)), (22, .int (nI cr)), (23, .int (nI i)), (24, .int (nI (X i + Y i + cr)))]) rfl ?_
    refine xx_aload_n dX9_divide_608 rfl ?_
    refine xx_get xx_c9 dX9_divide_609 wf_X9_65 (j := 23) (by decide) hb2 rfl ?_
    refine xx_iload dX9_divide_612 rfl ?_
    refine xx_iload dX9_divide_614 rfl ?_
    refine xx_iadd dX9_divide_616 ?_
    refine xx_eqi (y := nI (j + i)) (nI_add j i) ?_
    refine xx_iload dX9_divide_617 rfl ?_
    refine xx_ldc (v := 65535) dX9_divide_619 wk_X9_93 ?_
    refine xx_iand dX9_divide_621 ?_
    refine xx_eqi (y := nI ((X i + Y i + cr) % 65536)) (pk_andN (n := (X i + Y i + cr)) (by omega) 16 (by decide)) ?_
    refine xx_iast dX9_divide_622 y2 (vp_in_nI (by omega) (by decide)) (xx_gu fun C z1 h1 o1 => ?_)
    rw [nI_clamp (by omega)] at h1
    refine xx_iload dX9_divide_623 rfl ?_
    refine xx_bipush (v := 16) dX9_divide_625 (by decide) ?_
    refine xx_ishr dX9_divide_627 ?_
    refine xx_eqi (y := nI ((X i + Y i + cr) / 65536)) (pk_shrN (n := (X i + Y i + cr)) (by omega) (16 &&& 31) 16 (by decide)) ?_
    refine xx_istore dX9_divide_628 (by decide) ?_
    refine xx_clv (lv2 := [(0, .ref b), (3, .int (nI c)), (4, .int (nI d)), (5, .int (nI na)), (6, .int (nI nb)), (7, .int sg), (8, .int (nI sh)), (9, .int (nI j)), (12, .long (lN Gd)), (22, .int (nI ((X i + Y i + cr) / 65536))), (23, .int (nI i)), (24, .int (nI (X i + Y i + cr)))]) rfl ?_
    refine xx_iinc (v := nI (i + 1)) dX9_divide_630 rfl (nI_1 i) (by decide) ?_
    refine xx_goto (tgt := 578) dX9_divide_633 (by decide) ?_
    refine xx_less [0, 3, 4, 5, 6, 7, 8, 9, 12, 22, 23] ?_
    refine xx_clv (lv2 := [(0, .ref b), (3, .int (nI c)), (4, .int (nI d)), (5, .int (nI na)), (6, .int (nI nb)), (7, .int sg), (8, .int (nI sh)), (9, .int (nI j)), (12, .long (lN Gd)), (22, .int (nI ((X i + Y i + cr) / 65536))), (23, .int (nI (i + 1)))]) rfl ?_
    refine ih (i + 1) (by omega) C _ (yy_ud R i ((X i + Y i + cr) % 65536)) ((X i + Y i + cr) / 65536) (by omega) h1 (fun w hw => ?_) (fun w hw => (pk_un (by omega)).trans (y4 w (by omega))) (by omega) ?_ (fun q hq => (o1 q hq).trans (y7 q hq))
    · by_cases e : w = i
      · subst e; rw [pk_us, yy_ud_s]; exact ⟨Nat.mod_lt _ (by decide), rfl⟩
      · rw [pk_un (by omega), yy_ud_n e]; exact y3 w (by omega)
    · rw [yy_ud_val, Nat.pow_succ]
      have h9 := yy_stp _ cr (65536 ^ i) _ (X i + Y i) ((X i + Y i + cr) % 65536) ((X i + Y i + cr) / 65536) 65536 y6 (by rw [Nat.mod_add_div]; omega)
      have e9 : yy_val 65536 X (i + 1) = yy_val 65536 X i + X i * 65536 ^ i := rfl
      have e8 : yy_val 65536 Y (i + 1) = yy_val 65536 Y i + Y i * 65536 ^ i := rfl
      rw [h9, e9, e8, Nat.add_mul]
      omega
set_option maxRecDepth 100000 in
theorem c_X9_dg {G : xx_G} {l : Launch} {A : xx_H} {b : Nat} {th m n hr st hl en tu : Value} {c d na nb sh j Gd : Nat} {sg : Int32} {f g : Nat → Int32} {X Y : Nat → Nat} {Q : Option Value ⊕ String → xx_H → Prop} (hb : A.2 b = xx_o 9 (xx_mf b th m n hr st hl en tu)) (hr : A.2 (b + 17) = xx_i 42 f) (hy : A.2 (b + 18) = xx_i 42 g) (hj : j + nb ≤ 40) (hG : Gd < 65536) (hX : ∀ i, i ≤ nb → X i < 65536 ∧ f (j + i) = nI (X i)) (hY : ∀ i, i < nb → Y i < 65536 ∧ g i = nI (Y i)) (hnb : 1 ≤ nb) (hV : 0 < yy_val 65536 Y nb) (g1 : yy_val 65536 X (nb + 1) / yy_val 65536 Y nb ≤ Gd) (g2 : Gd ≤ yy_val 65536 X (nb + 1) / yy_val 65536 Y nb + 1) (k : ∀ (B : xx_H) (f1 : Nat → Int32) (R : Nat → Nat), B.1 = A.1 → B.2 (b + 17) = xx_i 42 f1 → (∀ w, w ≤ nb → R w < 65536 ∧ f1 (j + w) = nI (R w)) → (∀ w, w < j ∨ j + nb < w → f1 w = f w) → yy_val 65536 R (nb + 1) = yy_val 65536 X (nb + 1) % yy_val 65536 Y nb → (∀ q, q ≠ b + 17 → B.2 q = A.2 q) → xx_X G l mX9_divide 1 0 0 662 [(0, .ref b), (3, .int (nI c)), (4, .int (nI d)), (5, .int (nI na)), (6, .int (nI nb)), (7, .int sg), (8, .int (nI sh)), (9, .int (nI j)), (12, .long (lN (yy_val 65536 X (nb + 1) / yy_val 65536 Y nb)))] [] B Q) : xx_X G l mX9_divide 1 0 0 454 [(0, .ref b), (3, .int (nI c)), (4, .int (nI d)), (5, .int (nI na)), (6, .int (nI nb)), (7, .int sg), (8, .int (nI sh)), (9, .int (nI j)), (12, .long (lN Gd))] [] A Q := by
  refine xx_lconst (v := 0) dX9_divide_454 (by decide) ?_
  refine xx_lstore dX9_divide_455 (by decide) ?_
  refine xx_clv (lv2 := [(0, .ref b), (3, .int (nI c)), (4, .int (nI d)), (5, .int (nI na)), (6, .int (nI nb)), (7, .int sg), (8, .int (nI sh)), (9, .int (nI j)), (12, .long (lN Gd)), (18, .long 0)]) rfl ?_
  refine xx_iconst (v := 0) dX9_divide_457 (by decide) ?_
  refine xx_istore dX9_divide_458 (by decide) ?_
  refine xx_clv (lv2 := [(0, .ref b), (3, .int (nI c)), (4, .int (nI d)), (5, .int (nI na)), (6, .int (nI nb)), (7, .int sg), (8, .int (nI sh)), (9, .int (nI j)), (12, .long (lN Gd)), (18, .long 0), (20, .int 0)]) rfl ?_
  refine xx_clv (lv2 := [(0, .ref b), (3, .int (nI c)), (4, .int (nI d)), (5, .int (nI na)), (6, .int (nI nb)), (7, .int sg), (8, .int (nI sh)), (9, .int (nI j)), (12, .long (lN Gd)), (18, .long (lz (-0))), (20, .int (nI 0))]) rfl ?_
  refine l_X9_ms (f := f) (X := X) (Y := Y) hb hy hj hG hX hY (fun B f1 R cr y1 y2 y3 y4 y5 y6 y7 y8 => ?_) nb 0 (by omega) A f (fun _ => 0) 0 rfl hr (fun w hw => absurd hw (Nat.not_lt_zero w)) (fun _ _ => rfl) (by decide) (by decide) (by rw [yy_v0, yy_v0, yy_v0]; simp) (fun q _ => rfl)
  have hb2 := (y8 b (by omega)).trans hb
  have hy2 := (y8 (b + 18) (by omega)).trans hy
  obtain ⟨p1, q1⟩ := hX nb (Nat.le_refl _)
  have q1 : f1 (j + nb) = nI (X nb) := (y4 (j + nb) (by omega)).trans q1
  obtain ⟨z, hz⟩ : ∃ z : Int, z = cr + (X nb : Int) := ⟨_, rfl⟩
  have hlt := yy_val_lt (β := 65536) (D := R) (n := nb) (fun i hi => (y3 i hi).1)
  have hP : 0 < 65536 ^ nb := Nat.pow_pos (by decide)
  have hv : ((yy_val 65536 R nb : Nat) : Int) + z * ((65536 ^ nb : Nat) : Int) = ((yy_val 65536 X (nb + 1) : Nat) : Int) - (Gd : Int) * ((yy_val 65536 Y nb : Nat) : Int) := by
    have e9 : yy_val 65536 X (nb + 1) = yy_val 65536 X nb + X nb * 65536 ^ nb := rfl
    rw [e9, hz, Int.add_mul, Int.natCast_add, Int.natCast_mul]; generalize ((65536 ^ nb : Nat) : Int) = P at y7 ⊢; omega
  obtain ⟨t1, t2⟩ := yy_tk (β := 65536) (Int.natCast_nonneg _) (by exact_mod_cast hlt) (by exact_mod_cast hP) (by omega) (by omega) (by decide) hv
  have t3 : z < 0 ↔ yy_val 65536 X (nb + 1) < Gd * yy_val 65536 Y nb := by rw [t1]; exact_mod_cast Iff.rfl
  have hR : yy_val 65536 (yy_ud R nb (z % 65536).toNat) (nb + 1) + Gd * yy_val 65536 Y nb = yy_val 65536 X (nb + 1) + (if yy_val 65536 X (nb + 1) < Gd * yy_val 65536 Y nb then 65536 ^ (nb + 1) else 0) := by
    rw [yy_ud_val]
    apply Int.ofNat.inj
    have e9 : (((z % 65536).toNat : Nat) : Int) = z % 65536 := Int.toNat_of_nonneg (Int.emod_nonneg _ (by decide))
    show (((yy_val 65536 R nb + (z % 65536).toNat * 65536 ^ nb + Gd * yy_val 65536 Y nb : Nat)) : Int) = _
    rw [Int.natCast_add, Int.natCast_add, Int.natCast_mul, Int.natCast_mul, e9, t2]
    by_cases e : yy_val 65536 X (nb + 1) < Gd * yy_val 65536 Y nb
    · rw [if_pos (t1.mp (t3.mpr e)), if_pos e, Nat.pow_succ]; show _ = ((_ + _ * 65536 : Nat) : Int); rw [Int.natCast_add, Int.natCast_mul]; rfl
    · rw [if_neg (fun q => e (t3.mp (t1.mpr q))), if_neg e]; rfl
  have hVP : yy_val 65536 Y nb < 65536 ^ nb := yy_val_lt (fun i hi => (hY i hi).1)
  obtain ⟨w1, w2⟩ := yy_dg hV g1 g2 (P := 65536 ^ (nb + 1)) (by rw [Nat.pow_succ]; have : 65536 ^ nb * 1 ≤ 65536 ^ nb * 65536 := Nat.mul_le_mul_left _ (by decide); omega) hR
  refine xx_aload_n dX9_divide_526 rfl ?_
  refine xx_get xx_c9 dX9_divide_527 wf_X9_65 (j := 23) (by decide) hb2 rfl ?_
  refine xx_iload dX9_divide_530 rfl ?_
  refine xx_iload dX9_divide_532 rfl ?_
  refine xx_iadd dX9_divide_534 ?_
  refine xx_eqi (y := nI (j + nb)) (nI_add j nb) ?_
  refine xx_iald dX9_divide_535 y2 (vp_in_nI (by omega) (by decide)) ?_
  refine xx_eqi (y := nI (X nb)) (by rw [nI_clamp (by omega)]; exact q1) ?_
  refine xx_i2l dX9_divide_536 ?_
  refine xx_eql (y := lN (X nb)) (nI_l (by omega)) ?_
  refine xx_lload dX9_divide_537 rfl ?_
  refine xx_lsub dX9_divide_539 ?_
  refine xx_eql (y := lz z) (by rw [hz, lN_lz, lz_sub]; congr 1; omega) ?_
  refine xx_lstore dX9_divide_540 (by decide) ?_
  refine xx_clv (lv2 := [(0, .ref b), (3, .int (nI c)), (4, .int (nI d)), (5, .int (nI na)), (6, .int (nI nb)), (7, .int sg), (8, .int (nI sh)), (9, .int (nI j)), (12, .long (lN Gd)), (18, .long (lz (-cr))), (20, .long (lz z))]) rfl ?_
  refine xx_aload_n dX9_divide_542 rfl ?_
  refine xx_get xx_c9 dX9_divide_543 wf_X9_65 (j := 23) (by decide) hb2 rfl ?_
  refine xx_iload dX9_divide_546 rfl ?_
  refine xx_iload dX9_divide_548 rfl ?_
  refine xx_iadd dX9_divide_550 ?_
  refine xx_eqi (y := nI (j + nb)) (nI_add j nb) ?_
  refine xx_lload dX9_divide_551 rfl ?_
  refine xx_ldc2 (v := 65535) dX9_divide_553 wk_X9_87 ?_
  refine xx_land dX9_divide_556 ?_
  refine xx_l2i dX9_divide_557 ?_
  refine xx_eqi (y := nI (z % 65536).toNat) (lz_lo16 z) ?_
  refine xx_iast dX9_divide_558 y2 (vp_in_nI (by omega) (by decide)) (xx_gu fun C z1 h1 o1 => ?_)
  rw [nI_clamp (by omega)] at h1
  have hb3 := (o1 b (by omega)).trans hb2
  have hy3 := (o1 (b + 18) (by omega)).trans hy2
  have hd3 : ∀ w, w ≤ nb → yy_ud R nb (z % 65536).toNat w < 65536 ∧ upd f1 (j + nb) (nI (z % 65536).toNat) (j + w) = nI (yy_ud R nb (z % 65536).toNat w) := by
    intro w hw
    by_cases e : w = nb
    · subst e; rw [pk_us, yy_ud_s]; exact ⟨yy_tl16 _, rfl⟩
    · rw [pk_un (by omega), yy_ud_n e]; exact y3 w (by omega)
  have ho3 : ∀ w, w < j ∨ j + nb < w → upd f1 (j + nb) (nI (z % 65536).toNat) w = f w := fun w hw => (pk_un (by omega)).trans (y4 w (by omega))
  refine xx_lload dX9_divide_559 rfl ?_
  refine xx_lconst (v := 0) dX9_divide_561 (by decide) ?_
  refine xx_lcmp dX9_divide_562 ?_
  refine xx_if_ge (tgt := 662) dX9_divide_563 (by decide) (fun j563 => ?_) (fun j563 => ?_)
  · have jz : ¬ z < 0 := fun q => absurd ((lg_cmp_ge _ _).mp j563) (Int64.not_le.mpr ((lz_lt (by omega) (by omega) (by decide) (by decide)).mpr q))
    obtain ⟨w3, w4⟩ := w2 (fun q => jz (t3.mpr q))
    refine xx_less [0, 3, 4, 5, 6, 7, 8, 9, 12] ?_
    refine xx_clv (lv2 := [(0, .ref b), (3, .int (nI c)), (4, .int (nI d)), (5, .int (nI na)), (6, .int (nI nb)), (7, .int sg), (8, .int (nI sh)), (9, .int (nI j)), (12, .long (lN (yy_val 65536 X (nb + 1) / yy_val 65536 Y nb)))]) (by rw [← w3]; rfl) ?_
    exact k C _ _ (by omega) h1 hd3 ho3 w4 (fun q hq => (o1 q hq).trans (y8 q hq))
  · refine xx_lload dX9_divide_566 rfl ?_
    refine xx_lconst (v := 1) dX9_divide_568 (by decide) ?_
    have jz : z < 0 := (lz_lt (a := z) (b := 0) (by omega) (by omega) (by decide) (by decide)).mp (Int64.not_le.mp (fun q => j563 ((lg_cmp_ge _ _).mpr q)))
    have hl := t3.mp jz
    obtain ⟨w3, w4⟩ := w1 hl
    have hG1 : 1 ≤ Gd := by apply Nat.pos_of_ne_zero; intro q; rw [q, Nat.zero_mul] at hl; omega
    refine xx_lsub dX9_divide_569 ?_
    refine xx_eql (y := lN (Gd - 1)) (lN_sub (a := Gd) (b := 1) (by omega)) ?_
    refine xx_lstore dX9_divide_570 (by decide) ?_
    refine xx_clv (lv2 := [(0, .ref b), (3, .int (nI c)), (4, .int (nI d)), (5, .int (nI na)), (6, .int (nI nb)), (7, .int sg), (8, .int (nI sh)), (9, .int (nI j)), (12, .long (lN (Gd - 1))), (18, .long (lz (-cr))), (20, .long (lz z))]) rfl ?_
    refine xx_iconst (v := 0) dX9_divide_572 (by decide) ?_
    refine xx_istore dX9_divide_573 (by decide) ?_
    refine xx_clv (lv2 := [(0, .ref b), (3, .int (nI c)), (4, .int (nI d)), (5, .int (nI na)), (6, .int (nI nb)), (7, .int sg), (8, .int (nI sh)), (9, .int (nI j)), (12, .long (lN (Gd - 1))), (18, .long (lz (-cr))), (20, .long (lz z)), (22, .int 0)]) rfl ?_
    refine xx_iconst (v := 0) dX9_divide_575 (by decide) ?_
    refine xx_istore dX9_divide_576 (by decide) ?_
    refine xx_clv (lv2 := [(0, .ref b), (3, .int (nI c)), (4, .int (nI d)), (5, .int (nI na)), (6, .int (nI nb)), (7, .int sg), (8, .int (nI sh)), (9, .int (nI j)), (12, .long (lN (Gd - 1))), (18, .long (lz (-cr))), (20, .long (lz z)), (22, .int 0), (23, .int 0)]) rfl ?_
    refine xx_less [0, 3, 4, 5, 6, 7, 8, 9, 12, 22, 23] ?_
    refine xx_clv (lv2 := [(0, .ref b), (3, .int (nI c)), (4, .int (nI d)), (5, .int (nI na)), (6, .int (nI nb)), (7, .int sg), (8, .int (nI sh)), (9, .int (nI j)), (12, .long (lN (Gd - 1))), (22, .int (nI 0)), (23, .int (nI 0))]) rfl ?_
    refine l_X9_ab (Gd := Gd - 1) (X := yy_ud R nb (z % 65536).toNat) (Y := Y) hb3 hy3 hj hd3 hY (fun D f4 R4 cr4 v1 v2 v3 v4 v5 v6 v7 => ?_) nb 0 (by omega) C _ (fun _ => 0) 0 rfl h1 (fun w hw => absurd hw (Nat.not_lt_zero w)) (fun _ _ => rfl) (by decide) (by rw [yy_v0, yy_v0, yy_v0]) (fun q _ => rfl)
    have hb4 := (v7 b (by omega)).trans hb3
    obtain ⟨p4, q4⟩ := hd3 nb (Nat.le_refl _)
    have q4 := (v4 (j + nb) (by omega)).trans q4
    obtain ⟨xt, hxt⟩ : ∃ xt, xt = yy_ud R nb (z % 65536).toNat nb := ⟨_, rfl⟩
    rw [← hxt] at p4 q4
    refine xx_aload_n dX9_divide_636 rfl ?_
    refine xx_get xx_c9 dX9_divide_637 wf_X9_65 (j := 23) (by decide) hb4 rfl ?_
    refine xx_iload dX9_divide_640 rfl ?_
    refine xx_iload dX9_divide_642 rfl ?_
    refine xx_iadd dX9_divide_644 ?_
    refine xx_eqi (y := nI (j + nb)) (nI_add j nb) ?_
    refine xx_aload_n dX9_divide_645 rfl ?_
    refine xx_get xx_c9 dX9_divide_646 wf_X9_65 (j := 23) (by decide) hb4 rfl ?_
    refine xx_iload dX9_divide_649 rfl ?_
    refine xx_iload dX9_divide_651 rfl ?_
    refine xx_iadd dX9_divide_653 ?_
    refine xx_eqi (y := nI (j + nb)) (nI_add j nb) ?_
    refine xx_iald dX9_divide_654 v2 (vp_in_nI (by omega) (by decide)) ?_
    refine xx_eqi (y := nI xt) (by rw [nI_clamp (by omega)]; exact q4) ?_
    refine xx_iload dX9_divide_655 rfl ?_
    refine xx_iadd dX9_divide_657 ?_
    refine xx_eqi (y := nI (xt + cr4)) (nI_add xt cr4) ?_
    refine xx_ldc (v := 65535) dX9_divide_658 wk_X9_93 ?_
    refine xx_iand dX9_divide_660 ?_
    refine xx_eqi (y := nI ((xt + cr4) % 65536)) (pk_andN (n := (xt + cr4)) (by omega) 16 (by decide)) ?_
    refine xx_iast dX9_divide_661 v2 (vp_in_nI (by omega) (by decide)) (xx_gu fun E z2 h2 o2 => ?_)
    rw [nI_clamp (by omega)] at h2
    refine xx_less [0, 3, 4, 5, 6, 7, 8, 9, 12] ?_
    refine xx_clv (lv2 := [(0, .ref b), (3, .int (nI c)), (4, .int (nI d)), (5, .int (nI na)), (6, .int (nI nb)), (7, .int sg), (8, .int (nI sh)), (9, .int (nI j)), (12, .long (lN (yy_val 65536 X (nb + 1) / yy_val 65536 Y nb)))]) (by rw [← w3]; rfl) ?_
    refine k E _ (yy_ud R4 nb ((xt + cr4) % 65536)) (by omega) h2 (fun w hw => ?_) (fun w hw => (pk_un (by omega)).trans ((v4 w (by omega)).trans (ho3 w hw))) ?_ (fun q hq => (o2 q hq).trans ((v7 q hq).trans ((o1 q hq).trans (y8 q hq))))
    · by_cases e : w = nb
      · subst e; rw [pk_us, yy_ud_s]; exact ⟨Nat.mod_lt _ (by decide), rfl⟩
      · rw [pk_un (by omega), yy_ud_n e]; exact v3 w (by omega)
    · rw [← w4]
      have hlt4 := yy_val_lt (β := 65536) (D := yy_ud R4 nb ((xt + cr4) % 65536)) (n := nb + 1) (fun w hw => by
        by_cases e : w = nb
        · subst e; rw [yy_ud_s]; exact Nat.mod_lt _ (by decide)
        · rw [yy_ud_n e]; exact (v3 w (by omega)).1)
      have e1 : yy_val 65536 (yy_ud R nb (z % 65536).toNat) (nb + 1) + yy_val 65536 Y nb = yy_val 65536 (yy_ud R4 nb ((xt + cr4) % 65536)) (nb + 1) + 65536 ^ (nb + 1) * ((xt + cr4) / 65536) := by
        have e5 : yy_val 65536 (yy_ud R nb (z % 65536).toNat) (nb + 1) = yy_val 65536 (yy_ud R nb (z % 65536).toNat) nb + yy_ud R nb (z % 65536).toNat nb * 65536 ^ nb := rfl
        rw [e5, ← hxt, yy_ud_val (D := R4), Nat.pow_succ]
        have e2 := Nat.mod_add_div (xt + cr4) 65536
        generalize (xt + cr4) % 65536 = r9 at e2 ⊢
        generalize (xt + cr4) / 65536 = r8 at e2 ⊢
        generalize 65536 ^ nb = P at v6 ⊢
        grind
      rw [e1, Nat.add_mul_mod_self_left, Nat.mod_eq_of_lt hlt4]
