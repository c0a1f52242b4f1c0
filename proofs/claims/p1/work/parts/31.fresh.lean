/-! ===== sign, told, part on a fresh object ===== -/
theorem xx_w0 {j : Nat} (hj : j < 2 ^ 31) : ((0 : Int64) - 64 * (nI j).toInt64).toInt = -(64 * (j : Int)) := by
  rw [nI_l hj, show (64 : Int64) = lN 64 from rfl, lN_mul, Int64.toInt_sub, pk_lT (by omega)]
  show ((0 : Int) - ((64 * j : Nat) : Int)).bmod (2 ^ 64) = _
  rw [Int.bmod_eq_of_le (by omega) (by omega)]
  omega
theorem xx_p1 {p : Int32} (h : ¬ p < 1) : ∃ j : Nat, j < 2 ^ 31 ∧ 1 ≤ j ∧ p = nI j := by
  obtain ⟨j, hj, rfl⟩ := nI_of (x := p) (fun q => h (Int32.lt_trans q (by decide)))
  refine ⟨j, hj, ?_, rfl⟩
  by_cases e : j = 0
  · subst e; exact absurd (by decide) h
  · omega
theorem xx_w1 {p : Int32} (h : ¬ p < 1) : (0 : Int64) - 64 * p.toInt64 < 0 := by
  obtain ⟨j, hj, h1, rfl⟩ := xx_p1 h
  rw [Int64.lt_iff_toInt_lt, xx_w0 hj]
  show -(64 * (j : Int)) < 0
  omega
theorem xx_w2 {p : Int32} (h : ¬ p < 1) : (0 : Int64) - 64 * p.toInt64 ≤ -31 := by
  obtain ⟨j, hj, h1, rfl⟩ := xx_p1 h
  rw [Int64.le_iff_toInt_le, xx_w0 hj]
  show -(64 * (j : Int)) ≤ -31
  omega
theorem xx_a0 {p : Int32} (h : ¬ p < 0) (h2 : ¬ 20 ≤ p) : 0 ≤ 4 * p + 3 ∧ 0 ≤ 4 * p + 2 ∧ 0 ≤ 4 * p + 1 ∧ 0 ≤ 4 * p + 0 := by
  obtain ⟨j, hj, rfl⟩ := nI_of h
  have h3 : j < 20 := by
    apply Nat.lt_of_not_le
    intro q
    exact h2 (nI_le (a := 20) q hj)
  have : ∀ j : Nat, j < 20 → 0 ≤ 4 * nI j + 3 ∧ 0 ≤ 4 * nI j + 2 ∧ 0 ≤ 4 * nI j + 1 ∧ 0 ≤ 4 * nI j + 0 := by decide
  exact this j h3
theorem xx_a1 {p : Int32} (h : ¬ p < 1) (h2 : ¬ 20 ≤ p) : 1 ≤ 4 * p + 3 ∧ 1 ≤ 4 * p + 2 ∧ 1 ≤ 4 * p + 1 ∧ 1 ≤ 4 * p + 0 := by
  obtain ⟨j, hj, h1, rfl⟩ := xx_p1 h
  have h3 : j < 20 := by
    apply Nat.lt_of_not_le
    intro q
    exact h2 (nI_le (a := 20) q hj)
  have : ∀ j : Nat, j < 20 → 1 ≤ j → 1 ≤ 4 * nI j + 3 ∧ 1 ≤ 4 * nI j + 2 ∧ 1 ≤ 4 * nI j + 1 ∧ 1 ≤ 4 * nI j + 0 := by decide
  exact this j h3 h1
set_option maxRecDepth 100000 in
theorem c_word0 {G : xx_G} {l : Launch} {A : xx_H} {b lim : Nat} {s0 p : Int32} (hb : A.2 b = xx_o 0 [.int s0, .int 0, .ref lim]) : xx_X G l mX0_word 0 0 0 0 (lv_args 0 [.ref b, .int p]) [] A (fun r B => r = .inl (some (.long 0)) ∧ B = A) := by
  refine xx_clv (lv2 := [(0, .ref b), (1, .int p)]) rfl ?_
  refine xx_lconst (v := 0) dX0_word_0 (by decide) ?_
  refine xx_lstore_n dX0_word_1 (by decide) ?_
  refine xx_clv (lv2 := [(0, .ref b), (1, .int p), (2, .long 0)]) rfl ?_
  refine xx_iconst (v := 0) dX0_word_2 (by decide) ?_
  refine xx_istore dX0_word_3 (by decide) ?_
  refine xx_clv (lv2 := [(0, .ref b), (1, .int p), (2, .long 0), (4, .int 0)]) rfl ?_
  refine xx_iload dX0_word_5 rfl ?_
  refine xx_aload_n dX0_word_7 rfl ?_
  refine xx_get xx_c0 dX0_word_8 wf_X0_13 (j := 1) (by decide) hb rfl ?_
  refine xx_icmp_ge (tgt := 102) dX0_word_11 (by decide) (fun j11 => ?_) (fun h => absurd (by decide) h)
  refine xx_lload_n dX0_word_102 rfl ?_
  exact xx_lret dX0_word_103 rfl ⟨rfl, rfl⟩
set_option maxRecDepth 100000 in
theorem c_word1 {G : xx_G} {l : Launch} {A : xx_H} {b lim : Nat} {s0 p : Int32} (hb : A.2 b = xx_o 0 [.int s0, .int 1, .ref lim]) (hl : A.2 lim = xx_i 14 xx_fun1) : xx_X G l mX0_word 0 0 0 0 (lv_args 0 [.ref b, .int 0]) [] A (fun r B => r = .inl (some (.long 1)) ∧ B = A) := by
  refine xx_clv (lv2 := [(0, .ref b), (1, .int 0)]) rfl ?_
  refine xx_lconst (v := 0) dX0_word_0 (by decide) ?_
  refine xx_lstore_n dX0_word_1 (by decide) ?_
  refine xx_clv (lv2 := [(0, .ref b), (1, .int 0), (2, .long 0)]) rfl ?_
  refine xx_iconst (v := 0) dX0_word_2 (by decide) ?_
  refine xx_istore dX0_word_3 (by decide) ?_
  refine xx_clv (lv2 := [(0, .ref b), (1, .int 0), (2, .long 0), (4, .int 0)]) rfl ?_
  refine xx_iload dX0_word_5 rfl ?_
  refine xx_aload_n dX0_word_7 rfl ?_
  refine xx_get xx_c0 dX0_word_8 wf_X0_13 (j := 1) (by decide) hb rfl ?_
  refine xx_icmp_ge (tgt := 102) dX0_word_11 (by decide) (fun h => absurd h (by decide)) (fun j11 => ?_)
  refine xx_ldc2 (v := 31) dX0_word_14 wk_X0_60 ?_
  refine xx_iload dX0_word_17 rfl ?_
  refine xx_i2l dX0_word_19 ?_
  refine xx_eql (y := 0) (by decide) ?_
  refine xx_lmul dX0_word_20 ?_
  refine xx_eql (y := 0) (by decide) ?_
  refine xx_ldc2 (v := 64) dX0_word_21 wk_X0_62 ?_
  refine xx_iload_n dX0_word_24 rfl ?_
  refine xx_i2l dX0_word_25 ?_
  refine xx_eql (y := 0) (by decide) ?_
  refine xx_lmul dX0_word_26 ?_
  refine xx_eql (y := 0) (by decide) ?_
  refine xx_lsub dX0_word_27 ?_
  refine xx_eql (y := 0) (by decide) ?_
  refine xx_lstore dX0_word_28 (by decide) ?_
  refine xx_clv (lv2 := [(0, .ref b), (1, .int 0), (2, .long 0), (4, .int 0), (5, .long 0)]) rfl ?_
  refine xx_lload dX0_word_30 rfl ?_
  refine xx_lconst (v := 0) dX0_word_32 (by decide) ?_
  refine xx_lcmp dX0_word_33 ?_
  refine xx_eqi (y := 0) (by decide) ?_
  refine xx_if_lt (tgt := 64) dX0_word_34 (by decide) (fun h => absurd h (by decide)) (fun j34 => ?_)
  refine xx_lload dX0_word_37 rfl ?_
  refine xx_ldc2 (v := 64) dX0_word_39 wk_X0_62 ?_
  refine xx_lcmp dX0_word_42 ?_
  refine xx_eqi (y := (-1)) (by decide) ?_
  refine xx_if_ge (tgt := 64) dX0_word_43 (by decide) (fun h => absurd h (by decide)) (fun j43 => ?_)
  refine xx_lload_n dX0_word_46 rfl ?_
  refine xx_aload_n dX0_word_47 rfl ?_
  refine xx_get xx_c0 dX0_word_48 wf_X0_16 (j := 2) (by decide) hb rfl ?_
  refine xx_iload dX0_word_51 rfl ?_
  refine xx_iald dX0_word_53 hl (by unfold vp_in; decide) ?_
  refine xx_eqi (y := 1) rfl ?_
  refine xx_i2l dX0_word_54 ?_
  refine xx_eql (y := 1) (by decide) ?_
  refine xx_lload dX0_word_55 rfl ?_
  refine xx_l2i dX0_word_57 ?_
  refine xx_eqi (y := 0) (by decide) ?_
  refine xx_lshl dX0_word_58 ?_
  refine xx_eql (y := 1) (by decide) ?_
  refine xx_lor dX0_word_59 ?_
  refine xx_eql (y := 1) (by decide) ?_
  refine xx_lstore_n dX0_word_60 (by decide) ?_
  refine xx_clv (lv2 := [(0, .ref b), (1, .int 0), (2, .long 1), (4, .int 0), (5, .long 0)]) rfl ?_
  refine xx_goto (tgt := 96) dX0_word_61 (by decide) ?_
  refine xx_iinc (v := 1) dX0_word_96 rfl (by decide) (by decide) ?_
  refine xx_clv (lv2 := [(0, .ref b), (1, .int 0), (2, .long 1), (4, .int 1), (5, .long 0)]) rfl ?_
  refine xx_goto (tgt := 5) dX0_word_99 (by decide) ?_
  refine xx_iload dX0_word_5 rfl ?_
  refine xx_aload_n dX0_word_7 rfl ?_
  refine xx_get xx_c0 dX0_word_8 wf_X0_13 (j := 1) (by decide) hb rfl ?_
  refine xx_icmp_ge (tgt := 102) dX0_word_11 (by decide) (fun j11 => ?_) (fun h => absurd (by decide) h)
  refine xx_lload_n dX0_word_102 rfl ?_
  exact xx_lret dX0_word_103 rfl ⟨rfl, rfl⟩
set_option maxRecDepth 100000 in
theorem c_word1p {G : xx_G} {l : Launch} {A : xx_H} {b lim : Nat} {s0 p : Int32} (hb : A.2 b = xx_o 0 [.int s0, .int 1, .ref lim]) (hl : A.2 lim = xx_i 14 xx_fun1) (hp : ¬ p < 1) : xx_X G l mX0_word 0 0 0 0 (lv_args 0 [.ref b, .int p]) [] A (fun r B => r = .inl (some (.long 0)) ∧ B = A) := by
  refine xx_clv (lv2 := [(0, .ref b), (1, .int p)]) rfl ?_
  refine xx_lconst (v := 0) dX0_word_0 (by decide) ?_
  refine xx_lstore_n dX0_word_1 (by decide) ?_
  refine xx_clv (lv2 := [(0, .ref b), (1, .int p), (2, .long 0)]) rfl ?_
  refine xx_iconst (v := 0) dX0_word_2 (by decide) ?_
  refine xx_istore dX0_word_3 (by decide) ?_
  refine xx_clv (lv2 := [(0, .ref b), (1, .int p), (2, .long 0), (4, .int 0)]) rfl ?_
  refine xx_iload dX0_word_5 rfl ?_
  refine xx_aload_n dX0_word_7 rfl ?_
  refine xx_get xx_c0 dX0_word_8 wf_X0_13 (j := 1) (by decide) hb rfl ?_
  refine xx_icmp_ge (tgt := 102) dX0_word_11 (by decide) (fun h => absurd h (by decide)) (fun j11 => ?_)
  refine xx_ldc2 (v := 31) dX0_word_14 wk_X0_60 ?_
  refine xx_iload dX0_word_17 rfl ?_
  refine xx_i2l dX0_word_19 ?_
  refine xx_eql (y := 0) (by decide) ?_
  refine xx_lmul dX0_word_20 ?_
  refine xx_eql (y := 0) (by decide) ?_
  refine xx_ldc2 (v := 64) dX0_word_21 wk_X0_62 ?_
  refine xx_iload_n dX0_word_24 rfl ?_
  refine xx_i2l dX0_word_25 ?_
  refine xx_lmul dX0_word_26 ?_
  refine xx_lsub dX0_word_27 ?_
  refine xx_lstore dX0_word_28 (by decide) ?_
  refine xx_clv (lv2 := [(0, .ref b), (1, .int p), (2, .long 0), (4, .int 0), (5, .long (0 - ((64 * p.toInt64))))]) rfl ?_
  refine xx_lload dX0_word_30 rfl ?_
  refine xx_lconst (v := 0) dX0_word_32 (by decide) ?_
  refine xx_lcmp dX0_word_33 ?_
  refine xx_if_lt (tgt := 64) dX0_word_34 (by decide) (fun j34 => ?_) (fun h => absurd ((lg_cmp_lt _ _).mpr (xx_w1 hp)) h)
  refine xx_lload dX0_word_64 rfl ?_
  refine xx_lconst (v := 0) dX0_word_66 (by decide) ?_
  refine xx_lcmp dX0_word_67 ?_
  refine xx_if_ge (tgt := 96) dX0_word_68 (by decide) (fun h => absurd ((lg_cmp_ge _ _).mp h) (Int64.not_le.mpr (xx_w1 hp))) (fun j68 => ?_)
  refine xx_lload dX0_word_71 rfl ?_
  refine xx_ldc2 (v := (-31)) dX0_word_73 wk_X0_64 ?_
  refine xx_lcmp dX0_word_76 ?_
  refine xx_if_le (tgt := 96) dX0_word_77 (by decide) (fun j77 => ?_) (fun h => absurd ((lg_cmp_le _ _).mpr (xx_w2 hp)) h)
  refine xx_iinc (v := 1) dX0_word_96 rfl (by decide) (by decide) ?_
  refine xx_clv (lv2 := [(0, .ref b), (1, .int p), (2, .long 0), (4, .int 1), (5, .long (0 - ((64 * p.toInt64))))]) rfl ?_
  refine xx_goto (tgt := 5) dX0_word_99 (by decide) ?_
  refine xx_iload dX0_word_5 rfl ?_
  refine xx_aload_n dX0_word_7 rfl ?_
  refine xx_get xx_c0 dX0_word_8 wf_X0_13 (j := 1) (by decide) hb rfl ?_
  refine xx_icmp_ge (tgt := 102) dX0_word_11 (by decide) (fun j11 => ?_) (fun h => absurd (by decide) h)
  refine xx_lload_n dX0_word_102 rfl ?_
  exact xx_lret dX0_word_103 rfl ⟨rfl, rfl⟩
set_option maxRecDepth 100000 in
theorem c_X8_sign {G : xx_G} {l : Launch} {A : xx_H} {b k1 k2 k3 la : Nat} {u0 u1 u2 u3 u4 u5 u6 u7 u8 u9 u10 u11 u12 u13 u14 u15 u17 : Value} {s n0 : Int32} (hb : A.2 b = xx_o 8 [u0, u1, u2, u3, u4, u5, u6, u7, u8, u9, u10, u11, u12, u13, u14, u15, .ref k1, u17]) (h1 : A.2 k1 = xx_o 2 [.ref k2, .ref k3]) (h2 : A.2 k2 = xx_o 0 [.int s, .int n0, .ref la]) : xx_X G l mX8_sign 0 0 0 0 (lv_args 0 [.ref b]) [] A (fun r B => r = .inl (some (.int s)) ∧ B = A) := by
  refine xx_clv (lv2 := [(0, .ref b)]) rfl ?_
  refine xx_aload_n dX8_sign_0 rfl ?_
  refine xx_get xx_c8 dX8_sign_1 wf_X8_91 (j := 16) (by decide) hb rfl ?_
  refine xx_get xx_c2 dX8_sign_4 wf_X8_174 (j := 0) (by decide) h1 rfl ?_
  refine xx_get xx_c0 dX8_sign_7 wf_X8_194 (j := 0) (by decide) h2 rfl ?_
  exact xx_iret dX8_sign_10 rfl ⟨rfl, rfl⟩
set_option maxRecDepth 100000 in
theorem c_X8_told0 {G : xx_G} {l : Launch} {A : xx_H} {b k0 k1 k2 k3 : Nat} {u2 u3 u4 u5 u8 u9 u11 u12 u13 u14 u15 u16 u17 : Value} {s e n m0 m1 : Int32} (hb : A.2 b = xx_o 8 [.ref k0, .ref k1, u2, u3, u4, u5, .int s, .int e, u8, u9, .int n, u11, u12, u13, u14, u15, u16, u17]) {f : Nat → Int32} (hk : A.2 k0 = xx_i 2 f) {g : Nat → Option Nat} (hg : A.2 k1 = xx_r 14 2 g) (g0 : g 0 = some k2) (g1 : g 1 = some k3) {a0 a1 a3 a4 a5 a6 c0 c1 c3 c4 c5 c6 : Value} (hp0 : A.2 k2 = xx_o 4 [a0, a1, .int m0, a3, a4, a5, a6]) (hp1 : A.2 k3 = xx_o 4 [c0, c1, .int m1, c3, c4, c5, c6]) : xx_X G l mX8_told 0 0 0 0 (lv_args 0 [.ref b, .int 0]) [] A (fun r B => r = .inl (some (.int (f 0))) ∧ B = A) := by
  refine xx_clv (lv2 := [(0, .ref b), (1, .int 0)]) rfl ?_
  refine xx_iload_n dX8_told_0 rfl ?_
  refine xx_tableIn (tgt := 44) dX8_told_1 (by decide) (by decide) rfl (by decide) ?_
  refine xx_aload_n dX8_told_44 rfl ?_
  refine xx_get xx_c8 dX8_told_45 wf_X8_7 (j := 0) (by decide) hb rfl ?_
  refine xx_iload_n dX8_told_48 rfl ?_
  refine xx_iald dX8_told_49 hk (by unfold vp_in; decide) ?_
  refine xx_eqi (y := f 0) rfl ?_
  exact xx_iret dX8_told_50 rfl ⟨rfl, rfl⟩
set_option maxRecDepth 100000 in
theorem c_X8_told1 {G : xx_G} {l : Launch} {A : xx_H} {b k0 k1 k2 k3 : Nat} {u2 u3 u4 u5 u8 u9 u11 u12 u13 u14 u15 u16 u17 : Value} {s e n m0 m1 : Int32} (hb : A.2 b = xx_o 8 [.ref k0, .ref k1, u2, u3, u4, u5, .int s, .int e, u8, u9, .int n, u11, u12, u13, u14, u15, u16, u17]) {f : Nat → Int32} (hk : A.2 k0 = xx_i 2 f) {g : Nat → Option Nat} (hg : A.2 k1 = xx_r 14 2 g) (g0 : g 0 = some k2) (g1 : g 1 = some k3) {a0 a1 a3 a4 a5 a6 c0 c1 c3 c4 c5 c6 : Value} (hp0 : A.2 k2 = xx_o 4 [a0, a1, .int m0, a3, a4, a5, a6]) (hp1 : A.2 k3 = xx_o 4 [c0, c1, .int m1, c3, c4, c5, c6]) : xx_X G l mX8_told 0 0 0 0 (lv_args 0 [.ref b, .int 1]) [] A (fun r B => r = .inl (some (.int (f 1))) ∧ B = A) := by
  refine xx_clv (lv2 := [(0, .ref b), (1, .int 1)]) rfl ?_
  refine xx_iload_n dX8_told_0 rfl ?_
  refine xx_tableIn (tgt := 44) dX8_told_1 (by decide) (by decide) rfl (by decide) ?_
  refine xx_aload_n dX8_told_44 rfl ?_
  refine xx_get xx_c8 dX8_told_45 wf_X8_7 (j := 0) (by decide) hb rfl ?_
  refine xx_iload_n dX8_told_48 rfl ?_
  refine xx_iald dX8_told_49 hk (by unfold vp_in; decide) ?_
  refine xx_eqi (y := f 1) rfl ?_
  exact xx_iret dX8_told_50 rfl ⟨rfl, rfl⟩
set_option maxRecDepth 100000 in
theorem c_X8_told2 {G : xx_G} {l : Launch} {A : xx_H} {b k0 k1 k2 k3 : Nat} {u2 u3 u4 u5 u8 u9 u11 u12 u13 u14 u15 u16 u17 : Value} {s e n m0 m1 : Int32} (hb : A.2 b = xx_o 8 [.ref k0, .ref k1, u2, u3, u4, u5, .int s, .int e, u8, u9, .int n, u11, u12, u13, u14, u15, u16, u17]) {f : Nat → Int32} (hk : A.2 k0 = xx_i 2 f) {g : Nat → Option Nat} (hg : A.2 k1 = xx_r 14 2 g) (g0 : g 0 = some k2) (g1 : g 1 = some k3) {a0 a1 a3 a4 a5 a6 c0 c1 c3 c4 c5 c6 : Value} (hp0 : A.2 k2 = xx_o 4 [a0, a1, .int m0, a3, a4, a5, a6]) (hp1 : A.2 k3 = xx_o 4 [c0, c1, .int m1, c3, c4, c5, c6]) : xx_X G l mX8_told 0 0 0 0 (lv_args 0 [.ref b, .int 2]) [] A (fun r B => r = .inl (some (.int (s))) ∧ B = A) := by
  refine xx_clv (lv2 := [(0, .ref b), (1, .int 2)]) rfl ?_
  refine xx_iload_n dX8_told_0 rfl ?_
  refine xx_tableIn (tgt := 51) dX8_told_1 (by decide) (by decide) rfl (by decide) ?_
  refine xx_aload_n dX8_told_51 rfl ?_
  refine xx_get xx_c8 dX8_told_52 wf_X8_42 (j := 6) (by decide) hb rfl ?_
  exact xx_iret dX8_told_55 rfl ⟨rfl, rfl⟩
set_option maxRecDepth 100000 in
theorem c_X8_told3 {G : xx_G} {l : Launch} {A : xx_H} {b k0 k1 k2 k3 : Nat} {u2 u3 u4 u5 u8 u9 u11 u12 u13 u14 u15 u16 u17 : Value} {s e n m0 m1 : Int32} (hb : A.2 b = xx_o 8 [.ref k0, .ref k1, u2, u3, u4, u5, .int s, .int e, u8, u9, .int n, u11, u12, u13, u14, u15, u16, u17]) {f : Nat → Int32} (hk : A.2 k0 = xx_i 2 f) {g : Nat → Option Nat} (hg : A.2 k1 = xx_r 14 2 g) (g0 : g 0 = some k2) (g1 : g 1 = some k3) {a0 a1 a3 a4 a5 a6 c0 c1 c3 c4 c5 c6 : Value} (hp0 : A.2 k2 = xx_o 4 [a0, a1, .int m0, a3, a4, a5, a6]) (hp1 : A.2 k3 = xx_o 4 [c0, c1, .int m1, c3, c4, c5, c6]) : xx_X G l mX8_told 0 0 0 0 (lv_args 0 [.ref b, .int 3]) [] A (fun r B => r = .inl (some (.int (n))) ∧ B = A) := by
  refine xx_clv (lv2 := [(0, .ref b), (1, .int 3)]) rfl ?_
  refine xx_iload_n dX8_told_0 rfl ?_
  refine xx_tableIn (tgt := 56) dX8_told_1 (by decide) (by decide) rfl (by decide) ?_
  refine xx_aload_n dX8_told_56 rfl ?_
  refine xx_get xx_c8 dX8_told_57 wf_X8_56 (j := 10) (by decide) hb rfl ?_
  exact xx_iret dX8_told_60 rfl ⟨rfl, rfl⟩
set_option maxRecDepth 100000 in
theorem c_X8_told4 {G : xx_G} {l : Launch} {A : xx_H} {b k0 k1 k2 k3 : Nat} {u2 u3 u4 u5 u8 u9 u11 u12 u13 u14 u15 u16 u17 : Value} {s e n m0 m1 : Int32} (hb : A.2 b = xx_o 8 [.ref k0, .ref k1, u2, u3, u4, u5, .int s, .int e, u8, u9, .int n, u11, u12, u13, u14, u15, u16, u17]) {f : Nat → Int32} (hk : A.2 k0 = xx_i 2 f) {g : Nat → Option Nat} (hg : A.2 k1 = xx_r 14 2 g) (g0 : g 0 = some k2) (g1 : g 1 = some k3) {a0 a1 a3 a4 a5 a6 c0 c1 c3 c4 c5 c6 : Value} (hp0 : A.2 k2 = xx_o 4 [a0, a1, .int m0, a3, a4, a5, a6]) (hp1 : A.2 k3 = xx_o 4 [c0, c1, .int m1, c3, c4, c5, c6]) : xx_X G l mX8_told 0 0 0 0 (lv_args 0 [.ref b, .int 4]) [] A (fun r B => r = .inl (some (.int (e))) ∧ B = A) := by
  refine xx_clv (lv2 := [(0, .ref b), (1, .int 4)]) rfl ?_
  refine xx_iload_n dX8_told_0 rfl ?_
  refine xx_tableIn (tgt := 61) dX8_told_1 (by decide) (by decide) rfl (by decide) ?_
  refine xx_aload_n dX8_told_61 rfl ?_
  refine xx_get xx_c8 dX8_told_62 wf_X8_46 (j := 7) (by decide) hb rfl ?_
  exact xx_iret dX8_told_65 rfl ⟨rfl, rfl⟩
set_option maxRecDepth 100000 in
theorem c_X8_told5 {G : xx_G} {l : Launch} {A : xx_H} {b k0 k1 k2 k3 : Nat} {u2 u3 u4 u5 u8 u9 u11 u12 u13 u14 u15 u16 u17 : Value} {s e n m0 m1 : Int32} (hb : A.2 b = xx_o 8 [.ref k0, .ref k1, u2, u3, u4, u5, .int s, .int e, u8, u9, .int n, u11, u12, u13, u14, u15, u16, u17]) {f : Nat → Int32} (hk : A.2 k0 = xx_i 2 f) {g : Nat → Option Nat} (hg : A.2 k1 = xx_r 14 2 g) (g0 : g 0 = some k2) (g1 : g 1 = some k3) {a0 a1 a3 a4 a5 a6 c0 c1 c3 c4 c5 c6 : Value} (hp0 : A.2 k2 = xx_o 4 [a0, a1, .int m0, a3, a4, a5, a6]) (hp1 : A.2 k3 = xx_o 4 [c0, c1, .int m1, c3, c4, c5, c6]) : xx_X G l mX8_told 0 0 0 0 (lv_args 0 [.ref b, .int 5]) [] A (fun r B => r = .inl (some (.int (m0))) ∧ B = A) := by
  refine xx_clv (lv2 := [(0, .ref b), (1, .int 5)]) rfl ?_
  refine xx_iload_n dX8_told_0 rfl ?_
  refine xx_tableIn (tgt := 66) dX8_told_1 (by decide) (by decide) rfl (by decide) ?_
  refine xx_aload_n dX8_told_66 rfl ?_
  refine xx_get xx_c8 dX8_told_67 wf_X8_16 (j := 1) (by decide) hb rfl ?_
  refine xx_iload_n dX8_told_70 rfl ?_
  refine xx_iconst (v := 5) dX8_told_71 (by decide) ?_
  refine xx_isub dX8_told_72 ?_
  refine xx_eqi (y := 0) (by decide) ?_
  refine xx_aald (kd := 14) (b := k2) dX8_told_73 (by decide) rfl hg (by unfold vp_in; decide) g0 ?_
  refine xx_get xx_c4 dX8_told_74 wf_X8_211 (j := 2) (by decide) hp0 rfl ?_
  exact xx_iret dX8_told_77 rfl ⟨rfl, rfl⟩
set_option maxRecDepth 100000 in
theorem c_X8_told6 {G : xx_G} {l : Launch} {A : xx_H} {b k0 k1 k2 k3 : Nat} {u2 u3 u4 u5 u8 u9 u11 u12 u13 u14 u15 u16 u17 : Value} {s e n m0 m1 : Int32} (hb : A.2 b = xx_o 8 [.ref k0, .ref k1, u2, u3, u4, u5, .int s, .int e, u8, u9, .int n, u11, u12, u13, u14, u15, u16, u17]) {f : Nat → Int32} (hk : A.2 k0 = xx_i 2 f) {g : Nat → Option Nat} (hg : A.2 k1 = xx_r 14 2 g) (g0 : g 0 = some k2) (g1 : g 1 = some k3) {a0 a1 a3 a4 a5 a6 c0 c1 c3 c4 c5 c6 : Value} (hp0 : A.2 k2 = xx_o 4 [a0, a1, .int m0, a3, a4, a5, a6]) (hp1 : A.2 k3 = xx_o 4 [c0, c1, .int m1, c3, c4, c5, c6]) : xx_X G l mX8_told 0 0 0 0 (lv_args 0 [.ref b, .int 6]) [] A (fun r B => r = .inl (some (.int (m1))) ∧ B = A) := by
  refine xx_clv (lv2 := [(0, .ref b), (1, .int 6)]) rfl ?_
  refine xx_iload_n dX8_told_0 rfl ?_
  refine xx_tableIn (tgt := 66) dX8_told_1 (by decide) (by decide) rfl (by decide) ?_
  refine xx_aload_n dX8_told_66 rfl ?_
  refine xx_get xx_c8 dX8_told_67 wf_X8_16 (j := 1) (by decide) hb rfl ?_
  refine xx_iload_n dX8_told_70 rfl ?_
  refine xx_iconst (v := 5) dX8_told_71 (by decide) ?_
  refine xx_isub dX8_told_72 ?_
  refine xx_eqi (y := 1) (by decide) ?_
  refine xx_aald (kd := 14) (b := k3) dX8_told_73 (by decide) rfl hg (by unfold vp_in; decide) g1 ?_
  refine xx_get xx_c4 dX8_told_74 wf_X8_211 (j := 2) (by decide) hp1 rfl ?_
  exact xx_iret dX8_told_77 rfl ⟨rfl, rfl⟩
set_option maxRecDepth 100000 in
theorem c_X8_part0 {G : xx_G} {l : Launch} {A : xx_H} {b k1 k2 k3 la lb : Nat} {u0 u1 u2 u3 u4 u5 u6 u7 u8 u9 u10 u11 u12 u13 u14 u15 u17 : Value} {s t p : Int32} (hb : A.2 b = xx_o 8 [u0, u1, u2, u3, u4, u5, u6, u7, u8, u9, u10, u11, u12, u13, u14, u15, .ref k1, u17]) (h1 : A.2 k1 = xx_o 2 [.ref k2, .ref k3]) (h2 : A.2 k2 = xx_o 0 [.int s, .int 0, .ref la]) (h3 : A.2 k3 = xx_o 0 [.int t, .int 1, .ref lb]) (h4 : A.2 lb = xx_i 14 xx_fun1) (hp : ¬ p < 0) : xx_X G l mX8_part 1 0 0 0 (lv_args 0 [.ref b, .int 0, .int p]) [] A (fun r B => r = .inl (some (.long 0)) ∧ B = A) := by
  refine xx_clv (lv2 := [(0, .ref b), (1, .int 0), (2, .int p)]) rfl ?_
  refine xx_iload_n dX8_part_0 rfl ?_
  refine xx_if_ge (tgt := 14) dX8_part_1 (by decide) (fun j1 => ?_) (fun h => absurd (Int32.not_lt.mp hp) h)
  refine xx_iload_n dX8_part_14 rfl ?_
  refine xx_if_eq (tgt := 32) dX8_part_15 (by decide) (fun j15 => ?_) (fun h => absurd (by decide) h)
  refine xx_aload_n dX8_part_32 rfl ?_
  refine xx_get xx_c8 dX8_part_33 wf_X8_91 (j := 16) (by decide) hb rfl ?_
  refine xx_get xx_c2 dX8_part_36 wf_X8_174 (j := 0) (by decide) h1 rfl ?_
  refine xx_iload_n dX8_part_39 rfl ?_
  refine xx_callV (N := mX0_word) (vs := [.int p]) (b := k2) (rest := []) (d2 := 0) (c2 := 0) (s2 := 0) (c3 := 0) (s3 := 0) dX8_part_40 wm_X8_252 wi_X0_word wv_X0_word (k := 0) rfl (by decide) h2 nX0_word ⟨pX0_word, Nat.le_of_ble_eq_true rfl, by decide, Nat.le_of_ble_eq_true rfl, by decide, by decide⟩ (c_word0 h2) (fun v B hC => ?_) (fun E B hC => absurd hC.1 (by simp))
  obtain ⟨hv, rfl⟩ := hC
  cases hv
  refine xx_cst (st2 := [.long 0]) rfl ?_
  exact xx_lret dX8_part_43 rfl ⟨rfl, rfl⟩
set_option maxRecDepth 100000 in
theorem c_X8_part1 {G : xx_G} {l : Launch} {A : xx_H} {b k1 k2 k3 la lb : Nat} {u0 u1 u2 u3 u4 u5 u6 u7 u8 u9 u10 u11 u12 u13 u14 u15 u17 : Value} {s t : Int32} (hb : A.2 b = xx_o 8 [u0, u1, u2, u3, u4, u5, u6, u7, u8, u9, u10, u11, u12, u13, u14, u15, .ref k1, u17]) (h1 : A.2 k1 = xx_o 2 [.ref k2, .ref k3]) (h2 : A.2 k2 = xx_o 0 [.int s, .int 0, .ref la]) (h3 : A.2 k3 = xx_o 0 [.int t, .int 1, .ref lb]) (h4 : A.2 lb = xx_i 14 xx_fun1) : xx_X G l mX8_part 1 0 0 0 (lv_args 0 [.ref b, .int 1, .int 0]) [] A (fun r B => r = .inl (some (.long 1)) ∧ B = A) := by
  refine xx_clv (lv2 := [(0, .ref b), (1, .int 1), (2, .int 0)]) rfl ?_
  refine xx_iload_n dX8_part_0 rfl ?_
  refine xx_if_ge (tgt := 14) dX8_part_1 (by decide) (fun j1 => ?_) (fun h => absurd (by decide) h)
  refine xx_iload_n dX8_part_14 rfl ?_
  refine xx_if_eq (tgt := 32) dX8_part_15 (by decide) (fun h => absurd h (by decide)) (fun j15 => ?_)
  refine xx_aload_n dX8_part_18 rfl ?_
  refine xx_get xx_c8 dX8_part_19 wf_X8_91 (j := 16) (by decide) hb rfl ?_
  refine xx_get xx_c2 dX8_part_22 wf_X8_184 (j := 1) (by decide) h1 rfl ?_
  refine xx_iload_n dX8_part_25 rfl ?_
  refine xx_callV (N := mX0_word) (vs := [.int 0]) (b := k3) (rest := []) (d2 := 0) (c2 := 0) (s2 := 0) (c3 := 0) (s3 := 0) dX8_part_26 wm_X8_252 wi_X0_word wv_X0_word (k := 0) rfl (by decide) h3 nX0_word ⟨pX0_word, Nat.le_of_ble_eq_true rfl, by decide, Nat.le_of_ble_eq_true rfl, by decide, by decide⟩ (c_word1 (p := 0) h3 h4) (fun v B hC => ?_) (fun E B hC => absurd hC.1 (by simp))
  obtain ⟨hv, rfl⟩ := hC
  cases hv
  refine xx_cst (st2 := [.long 1]) rfl ?_
  refine xx_goto (tgt := 43) dX8_part_29 (by decide) ?_
  exact xx_lret dX8_part_43 rfl ⟨rfl, rfl⟩
set_option maxRecDepth 100000 in
theorem c_X8_part2 {G : xx_G} {l : Launch} {A : xx_H} {b k1 k2 k3 la lb : Nat} {u0 u1 u2 u3 u4 u5 u6 u7 u8 u9 u10 u11 u12 u13 u14 u15 u17 : Value} {s t p : Int32} (hb : A.2 b = xx_o 8 [u0, u1, u2, u3, u4, u5, u6, u7, u8, u9, u10, u11, u12, u13, u14, u15, .ref k1, u17]) (h1 : A.2 k1 = xx_o 2 [.ref k2, .ref k3]) (h2 : A.2 k2 = xx_o 0 [.int s, .int 0, .ref la]) (h3 : A.2 k3 = xx_o 0 [.int t, .int 1, .ref lb]) (h4 : A.2 lb = xx_i 14 xx_fun1) (hp : ¬ p < 1) : xx_X G l mX8_part 1 0 0 0 (lv_args 0 [.ref b, .int 1, .int p]) [] A (fun r B => r = .inl (some (.long 0)) ∧ B = A) := by
  refine xx_clv (lv2 := [(0, .ref b), (1, .int 1), (2, .int p)]) rfl ?_
  refine xx_iload_n dX8_part_0 rfl ?_
  refine xx_if_ge (tgt := 14) dX8_part_1 (by decide) (fun j1 => ?_) (fun h => absurd (Int32.not_lt.mp (fun q => hp (Int32.lt_trans q (by decide)))) h)
  refine xx_iload_n dX8_part_14 rfl ?_
  refine xx_if_eq (tgt := 32) dX8_part_15 (by decide) (fun h => absurd h (by decide)) (fun j15 => ?_)
  refine xx_aload_n dX8_part_18 rfl ?_
  refine xx_get xx_c8 dX8_part_19 wf_X8_91 (j := 16) (by decide) hb rfl ?_
  refine xx_get xx_c2 dX8_part_22 wf_X8_184 (j := 1) (by decide) h1 rfl ?_
  refine xx_iload_n dX8_part_25 rfl ?_
  refine xx_callV (N := mX0_word) (vs := [.int p]) (b := k3) (rest := []) (d2 := 0) (c2 := 0) (s2 := 0) (c3 := 0) (s3 := 0) dX8_part_26 wm_X8_252 wi_X0_word wv_X0_word (k := 0) rfl (by decide) h3 nX0_word ⟨pX0_word, Nat.le_of_ble_eq_true rfl, by decide, Nat.le_of_ble_eq_true rfl, by decide, by decide⟩ (c_word1p h3 h4 hp) (fun v B hC => ?_) (fun E B hC => absurd hC.1 (by simp))
  obtain ⟨hv, rfl⟩ := hC
  cases hv
  refine xx_cst (st2 := [.long 0]) rfl ?_
  refine xx_goto (tgt := 43) dX8_part_29 (by decide) ?_
  exact xx_lret dX8_part_43 rfl ⟨rfl, rfl⟩
set_option maxRecDepth 100000 in
theorem c_X9_sign {G : xx_G} {l : Launch} {A : xx_H} {b a3 : Nat} {u0 u1 u2 u4 u5 u6 u7 u8 u9 u10 u11 u12 u13 u14 u15 u16 u17 u18 u19 u20 u21 u22 u23 u24 u25 u26 u27 u28 : Value} (hb : A.2 b = xx_o 9 [u0, u1, u2, .ref a3, u4, u5, u6, u7, u8, u9, u10, u11, u12, u13, u14, u15, u16, u17, u18, u19, u20, u21, u22, u23, u24, u25, u26, u27, u28]) {S : Nat → Int32} (hs : A.2 a3 = xx_i 1740 S) (m3 : a3 ≠ b) : xx_X G l mX9_sign 0 0 0 0 (lv_args 0 [.ref b]) [] A (xx_r1 (some (.int (S 16))) b [.int 0, u1, u2, .ref a3, u4, u5, u6, u7, u8, u9, u10, u11, u12, u13, u14, u15, u16, u17, u18, u19, u20, u21, u22, u23, u24, u25, u26, u27, u28] A) := by
  refine xx_clv (lv2 := [(0, .ref b)]) rfl ?_
  refine xx_aload_n dX9_sign_0 rfl ?_
  refine xx_iconst (v := 0) dX9_sign_1 (by decide) ?_
  refine xx_put xx_c9 dX9_sign_2 wf_X9_84 (j := 0) (by decide) rfl rfl rfl hb (Nat.le_of_ble_eq_true rfl) (xx_gu fun A1 z1 h1 o1 => ?_)
  have h1 : A1.2 b = xx_o 9 [.int 0, u1, u2, .ref a3, u4, u5, u6, u7, u8, u9, u10, u11, u12, u13, u14, u15, u16, u17, u18, u19, u20, u21, u22, u23, u24, u25, u26, u27, u28] := h1
  have hs_1 := (o1 a3 (by omega)).trans hs
  refine xx_aload_n dX9_sign_5 rfl ?_
  refine xx_get xx_c9 dX9_sign_6 wf_X9_17 (j := 3) (by decide) h1 rfl ?_
  refine xx_bipush (v := 16) dX9_sign_9 (by decide) ?_
  refine xx_iald dX9_sign_11 hs_1 (by unfold vp_in; decide) ?_
  refine xx_eqi (y := S 16) rfl ?_
  exact xx_iret dX9_sign_12 rfl ⟨rfl, by rw [z1], h1, fun q hq => by rw [o1 q hq]⟩
set_option maxRecDepth 100000 in
theorem c_X9_told0 {G : xx_G} {l : Launch} {A : xx_H} {b am : Nat} {u0 u1 u2 u3 u6 u7 u8 u9 u12 u13 u14 u17 u18 u19 u21 u22 u23 u24 u25 u26 u27 u28 : Value} (hb : A.2 b = xx_o 9 [u0, u1, u2, u3, .int 0, .int 0, u6, u7, u8, u9, .int (-1), .int 0, u12, u13, u14, .int 0, .int 0, u17, u18, u19, .ref am, u21, u22, u23, u24, u25, u26, u27, u28]) {mu : Nat → Int64} (hm : A.2 am = xx_l 2 mu) (mm : am ≠ b) (e0 : mu 0 = 0) (e1 : mu 1 = 0) : xx_X G l mX9_told 1 0 0 0 (lv_args 0 [.ref b, .int 0]) [] A (xx_r1 (some (.int 0)) b [.int 0, u1, u2, u3, .int 0, .int 0, u6, u7, u8, u9, .int (-1), .int 0, u12, u13, u14, .int 0, .int 0, u17, u18, u19, .ref am, u21, u22, u23, u24, u25, u26, u27, u28] A) := by
  refine xx_clv (lv2 := [(0, .ref b), (1, .int 0)]) rfl ?_
  refine xx_aload_n dX9_told_0 rfl ?_
  refine xx_iload_n dX9_told_1 rfl ?_
  refine xx_iconst (v := 0) dX9_told_2 (by decide) ?_
  refine xx_bipush (v := 6) dX9_told_3 (by decide) ?_
  refine xx_callS (N := mX9_in) (vs := [.int 0, .int 0, .int 6]) (rest := [.ref b]) (d2 := 0) (c2 := 0) (s2 := 0) (c3 := 0) (s3 := 0) dX9_told_5 wm_X9_116 ws_X9_in wz_X9 (by decide) nX9_in ⟨pX9_in, Nat.le_of_ble_eq_true rfl, by decide, Nat.le_of_ble_eq_true rfl, by decide, by decide⟩ c_X9_in (fun v B hC => ?_) (fun E B hC => absurd hC.1 (by simp))
  obtain ⟨hv, rfl⟩ := hC
  cases hv
  refine xx_cst (st2 := [.int (xx_inn 0 0 6), .ref b]) rfl ?_
  refine xx_eqi (y := 1) (by decide) ?_
  refine xx_if_eq (tgt := 15) dX9_told_8 (by decide) (fun h => absurd h (by decide)) (fun j8 => ?_)
  refine xx_iconst (v := 0) dX9_told_11 (by decide) ?_
  refine xx_goto (tgt := 16) dX9_told_12 (by decide) ?_
  refine xx_put xx_c9 dX9_told_16 wf_X9_84 (j := 0) (by decide) rfl rfl rfl hb (Nat.le_of_ble_eq_true rfl) (xx_gu fun A2 z2 h2 o2 => ?_)
  have h2 : A2.2 b = xx_o 9 [.int 0, u1, u2, u3, .int 0, .int 0, u6, u7, u8, u9, .int (-1), .int 0, u12, u13, u14, .int 0, .int 0, u17, u18, u19, .ref am, u21, u22, u23, u24, u25, u26, u27, u28] := h2
  have hm_2 := (o2 am (by omega)).trans hm
  refine xx_aload_n dX9_told_19 rfl ?_
  refine xx_get xx_c9 dX9_told_20 wf_X9_84 (j := 0) (by decide) h2 rfl ?_
  refine xx_if_le (tgt := 31) dX9_told_23 (by decide) (fun j23 => ?_) (fun h => absurd (by decide) h)
  refine xx_iload_n dX9_told_31 rfl ?_
  refine xx_tableIn (tgt := 76) dX9_told_32 (by decide) (by decide) rfl (by decide) ?_
  refine xx_aload_n dX9_told_76 rfl ?_
  refine xx_get xx_c9 dX9_told_77 wf_X9_120 (j := 4) (by decide) h2 rfl ?_
  exact xx_iret dX9_told_80 rfl ⟨rfl, by rw [z2], h2, fun q hq => by rw [o2 q hq]⟩
set_option maxRecDepth 100000 in
theorem c_X9_told1 {G : xx_G} {l : Launch} {A : xx_H} {b am : Nat} {u0 u1 u2 u3 u6 u7 u8 u9 u12 u13 u14 u17 u18 u19 u21 u22 u23 u24 u25 u26 u27 u28 : Value} (hb : A.2 b = xx_o 9 [u0, u1, u2, u3, .int 0, .int 0, u6, u7, u8, u9, .int (-1), .int 0, u12, u13, u14, .int 0, .int 0, u17, u18, u19, .ref am, u21, u22, u23, u24, u25, u26, u27, u28]) {mu : Nat → Int64} (hm : A.2 am = xx_l 2 mu) (mm : am ≠ b) (e0 : mu 0 = 0) (e1 : mu 1 = 0) : xx_X G l mX9_told 1 0 0 0 (lv_args 0 [.ref b, .int 1]) [] A (xx_r1 (some (.int 0)) b [.int 0, u1, u2, u3, .int 0, .int 0, u6, u7, u8, u9, .int (-1), .int 0, u12, u13, u14, .int 0, .int 0, u17, u18, u19, .ref am, u21, u22, u23, u24, u25, u26, u27, u28] A) := by
  refine xx_clv (lv2 := [(0, .ref b), (1, .int 1)]) rfl ?_
  refine xx_aload_n dX9_told_0 rfl ?_
  refine xx_iload_n dX9_told_1 rfl ?_
  refine xx_iconst (v := 0) dX9_told_2 (by decide) ?_
  refine xx_bipush (v := 6) dX9_told_3 (by decide) ?_
  refine xx_callS (N := mX9_in) (vs := [.int 1, .int 0, .int 6]) (rest := [.ref b]) (d2 := 0) (c2 := 0) (s2 := 0) (c3 := 0) (s3 := 0) dX9_told_5 wm_X9_116 ws_X9_in wz_X9 (by decide) nX9_in ⟨pX9_in, Nat.le_of_ble_eq_true rfl, by decide, Nat.le_of_ble_eq_true rfl, by decide, by decide⟩ c_X9_in (fun v B hC => ?_) (fun E B hC => absurd hC.1 (by simp))
  obtain ⟨hv, rfl⟩ := hC
  cases hv
  refine xx_cst (st2 := [.int (xx_inn 1 0 6), .ref b]) rfl ?_
  refine xx_eqi (y := 1) (by decide) ?_
  refine xx_if_eq (tgt := 15) dX9_told_8 (by decide) (fun h => absurd h (by decide)) (fun j8 => ?_)
  refine xx_iconst (v := 0) dX9_told_11 (by decide) ?_
  refine xx_goto (tgt := 16) dX9_told_12 (by decide) ?_
  refine xx_put xx_c9 dX9_told_16 wf_X9_84 (j := 0) (by decide) rfl rfl rfl hb (Nat.le_of_ble_eq_true rfl) (xx_gu fun A2 z2 h2 o2 => ?_)
  have h2 : A2.2 b = xx_o 9 [.int 0, u1, u2, u3, .int 0, .int 0, u6, u7, u8, u9, .int (-1), .int 0, u12, u13, u14, .int 0, .int 0, u17, u18, u19, .ref am, u21, u22, u23, u24, u25, u26, u27, u28] := h2
  have hm_2 := (o2 am (by omega)).trans hm
  refine xx_aload_n dX9_told_19 rfl ?_
  refine xx_get xx_c9 dX9_told_20 wf_X9_84 (j := 0) (by decide) h2 rfl ?_
  refine xx_if_le (tgt := 31) dX9_told_23 (by decide) (fun j23 => ?_) (fun h => absurd (by decide) h)
  refine xx_iload_n dX9_told_31 rfl ?_
  refine xx_tableIn (tgt := 81) dX9_told_32 (by decide) (by decide) rfl (by decide) ?_
  refine xx_aload_n dX9_told_81 rfl ?_
  refine xx_get xx_c9 dX9_told_82 wf_X9_123 (j := 5) (by decide) h2 rfl ?_
  exact xx_iret dX9_told_85 rfl ⟨rfl, by rw [z2], h2, fun q hq => by rw [o2 q hq]⟩
set_option maxRecDepth 100000 in
theorem c_X9_told2 {G : xx_G} {l : Launch} {A : xx_H} {b am : Nat} {u0 u1 u2 u3 u6 u7 u8 u9 u12 u13 u14 u17 u18 u19 u21 u22 u23 u24 u25 u26 u27 u28 : Value} (hb : A.2 b = xx_o 9 [u0, u1, u2, u3, .int 0, .int 0, u6, u7, u8, u9, .int (-1), .int 0, u12, u13, u14, .int 0, .int 0, u17, u18, u19, .ref am, u21, u22, u23, u24, u25, u26, u27, u28]) {mu : Nat → Int64} (hm : A.2 am = xx_l 2 mu) (mm : am ≠ b) (e0 : mu 0 = 0) (e1 : mu 1 = 0) : xx_X G l mX9_told 1 0 0 0 (lv_args 0 [.ref b, .int 2]) [] A (xx_r1 (some (.int 0)) b [.int 0, u1, u2, u3, .int 0, .int 0, u6, u7, u8, u9, .int (-1), .int 0, u12, u13, u14, .int 0, .int 0, u17, u18, u19, .ref am, u21, u22, u23, u24, u25, u26, u27, u28] A) := by
  refine xx_clv (lv2 := [(0, .ref b), (1, .int 2)]) rfl ?_
  refine xx_aload_n dX9_told_0 rfl ?_
  refine xx_iload_n dX9_told_1 rfl ?_
  refine xx_iconst (v := 0) dX9_told_2 (by decide) ?_
  refine xx_bipush (v := 6) dX9_told_3 (by decide) ?_
  refine xx_callS (N := mX9_in) (vs := [.int 2, .int 0, .int 6]) (rest := [.ref b]) (d2 := 0) (c2 := 0) (s2 := 0) (c3 := 0) (s3 := 0) dX9_told_5 wm_X9_116 ws_X9_in wz_X9 (by decide) nX9_in ⟨pX9_in, Nat.le_of_ble_eq_true rfl, by decide, Nat.le_of_ble_eq_true rfl, by decide, by decide⟩ c_X9_in (fun v B hC => ?_) (fun E B hC => absurd hC.1 (by simp))
  obtain ⟨hv, rfl⟩ := hC
  cases hv
  refine xx_cst (st2 := [.int (xx_inn 2 0 6), .ref b]) rfl ?_
  refine xx_eqi (y := 1) (by decide) ?_
  refine xx_if_eq (tgt := 15) dX9_told_8 (by decide) (fun h => absurd h (by decide)) (fun j8 => ?_)
  refine xx_iconst (v := 0) dX9_told_11 (by decide) ?_
  refine xx_goto (tgt := 16) dX9_told_12 (by decide) ?_
  refine xx_put xx_c9 dX9_told_16 wf_X9_84 (j := 0) (by decide) rfl rfl rfl hb (Nat.le_of_ble_eq_true rfl) (xx_gu fun A2 z2 h2 o2 => ?_)
  have h2 : A2.2 b = xx_o 9 [.int 0, u1, u2, u3, .int 0, .int 0, u6, u7, u8, u9, .int (-1), .int 0, u12, u13, u14, .int 0, .int 0, u17, u18, u19, .ref am, u21, u22, u23, u24, u25, u26, u27, u28] := h2
  have hm_2 := (o2 am (by omega)).trans hm
  refine xx_aload_n dX9_told_19 rfl ?_
  refine xx_get xx_c9 dX9_told_20 wf_X9_84 (j := 0) (by decide) h2 rfl ?_
  refine xx_if_le (tgt := 31) dX9_told_23 (by decide) (fun j23 => ?_) (fun h => absurd (by decide) h)
  refine xx_iload_n dX9_told_31 rfl ?_
  refine xx_tableIn (tgt := 86) dX9_told_32 (by decide) (by decide) rfl (by decide) ?_
  refine xx_aload_n dX9_told_86 rfl ?_
  refine xx_get xx_c9 dX9_told_87 wf_X9_32 (j := 10) (by decide) h2 rfl ?_
  refine xx_if_ge (tgt := 97) dX9_told_90 (by decide) (fun h => absurd h (by decide)) (fun j90 => ?_)
  refine xx_iconst (v := 0) dX9_told_93 (by decide) ?_
  refine xx_goto (tgt := 101) dX9_told_94 (by decide) ?_
  exact xx_iret dX9_told_101 rfl ⟨rfl, by rw [z2], h2, fun q hq => by rw [o2 q hq]⟩
set_option maxRecDepth 100000 in
theorem c_X9_told3 {G : xx_G} {l : Launch} {A : xx_H} {b am : Nat} {u0 u1 u2 u3 u6 u7 u8 u9 u12 u13 u14 u17 u18 u19 u21 u22 u23 u24 u25 u26 u27 u28 : Value} (hb : A.2 b = xx_o 9 [u0, u1, u2, u3, .int 0, .int 0, u6, u7, u8, u9, .int (-1), .int 0, u12, u13, u14, .int 0, .int 0, u17, u18, u19, .ref am, u21, u22, u23, u24, u25, u26, u27, u28]) {mu : Nat → Int64} (hm : A.2 am = xx_l 2 mu) (mm : am ≠ b) (e0 : mu 0 = 0) (e1 : mu 1 = 0) : xx_X G l mX9_told 1 0 0 0 (lv_args 0 [.ref b, .int 3]) [] A (xx_r1 (some (.int 0)) b [.int 0, u1, u2, u3, .int 0, .int 0, u6, u7, u8, u9, .int (-1), .int 0, u12, u13, u14, .int 0, .int 0, u17, u18, u19, .ref am, u21, u22, u23, u24, u25, u26, u27, u28] A) := by
  refine xx_clv (lv2 := [(0, .ref b), (1, .int 3)]) rfl ?_
  refine xx_aload_n dX9_told_0 rfl ?_
  refine xx_iload_n dX9_told_1 rfl ?_
  refine xx_iconst (v := 0) dX9_told_2 (by decide) ?_
  refine xx_bipush (v := 6) dX9_told_3 (by decide) ?_
  refine xx_callS (N := mX9_in) (vs := [.int 3, .int 0, .int 6]) (rest := [.ref b]) (d2 := 0) (c2 := 0) (s2 := 0) (c3 := 0) (s3 := 0) dX9_told_5 wm_X9_116 ws_X9_in wz_X9 (by decide) nX9_in ⟨pX9_in, Nat.le_of_ble_eq_true rfl, by decide, Nat.le_of_ble_eq_true rfl, by decide, by decide⟩ c_X9_in (fun v B hC => ?_) (fun E B hC => absurd hC.1 (by simp))
  obtain ⟨hv, rfl⟩ := hC
  cases hv
  refine xx_cst (st2 := [.int (xx_inn 3 0 6), .ref b]) rfl ?_
  refine xx_eqi (y := 1) (by decide) ?_
  refine xx_if_eq (tgt := 15) dX9_told_8 (by decide) (fun h => absurd h (by decide)) (fun j8 => ?_)
  refine xx_iconst (v := 0) dX9_told_11 (by decide) ?_
  refine xx_goto (tgt := 16) dX9_told_12 (by decide) ?_
  refine xx_put xx_c9 dX9_told_16 wf_X9_84 (j := 0) (by decide) rfl rfl rfl hb (Nat.le_of_ble_eq_true rfl) (xx_gu fun A2 z2 h2 o2 => ?_)
  have h2 : A2.2 b = xx_o 9 [.int 0, u1, u2, u3, .int 0, .int 0, u6, u7, u8, u9, .int (-1), .int 0, u12, u13, u14, .int 0, .int 0, u17, u18, u19, .ref am, u21, u22, u23, u24, u25, u26, u27, u28] := h2
  have hm_2 := (o2 am (by omega)).trans hm
  refine xx_aload_n dX9_told_19 rfl ?_
  refine xx_get xx_c9 dX9_told_20 wf_X9_84 (j := 0) (by decide) h2 rfl ?_
  refine xx_if_le (tgt := 31) dX9_told_23 (by decide) (fun j23 => ?_) (fun h => absurd (by decide) h)
  refine xx_iload_n dX9_told_31 rfl ?_
  refine xx_tableIn (tgt := 102) dX9_told_32 (by decide) (by decide) rfl (by decide) ?_
  refine xx_aload_n dX9_told_102 rfl ?_
  refine xx_get xx_c9 dX9_told_103 wf_X9_132 (j := 15) (by decide) h2 rfl ?_
  refine xx_if_eq (tgt := 116) dX9_told_106 (by decide) (fun j106 => ?_) (fun h => absurd (by decide) h)
  refine xx_iconst (v := 0) dX9_told_116 (by decide) ?_
  exact xx_iret dX9_told_117 rfl ⟨rfl, by rw [z2], h2, fun q hq => by rw [o2 q hq]⟩
set_option maxRecDepth 100000 in
theorem c_X9_told4 {G : xx_G} {l : Launch} {A : xx_H} {b am : Nat} {u0 u1 u2 u3 u6 u7 u8 u9 u12 u13 u14 u17 u18 u19 u21 u22 u23 u24 u25 u26 u27 u28 : Value} (hb : A.2 b = xx_o 9 [u0, u1, u2, u3, .int 0, .int 0, u6, u7, u8, u9, .int (-1), .int 0, u12, u13, u14, .int 0, .int 0, u17, u18, u19, .ref am, u21, u22, u23, u24, u25, u26, u27, u28]) {mu : Nat → Int64} (hm : A.2 am = xx_l 2 mu) (mm : am ≠ b) (e0 : mu 0 = 0) (e1 : mu 1 = 0) : xx_X G l mX9_told 1 0 0 0 (lv_args 0 [.ref b, .int 4]) [] A (xx_r1 (some (.int (-1))) b [.int 0, u1, u2, u3, .int 0, .int 0, u6, u7, u8, u9, .int (-1), .int 0, u12, u13, u14, .int 0, .int 0, u17, u18, u19, .ref am, u21, u22, u23, u24, u25, u26, u27, u28] A) := by
  refine xx_clv (lv2 := [(0, .ref b), (1, .int 4)]) rfl ?_
  refine xx_aload_n dX9_told_0 rfl ?_
  refine xx_iload_n dX9_told_1 rfl ?_
  refine xx_iconst (v := 0) dX9_told_2 (by decide) ?_
  refine xx_bipush (v := 6) dX9_told_3 (by decide) ?_
  refine xx_callS (N := mX9_in) (vs := [.int 4, .int 0, .int 6]) (rest := [.ref b]) (d2 := 0) (c2 := 0) (s2 := 0) (c3 := 0) (s3 := 0) dX9_told_5 wm_X9_116 ws_X9_in wz_X9 (by decide) nX9_in ⟨pX9_in, Nat.le_of_ble_eq_true rfl, by decide, Nat.le_of_ble_eq_true rfl, by decide, by decide⟩ c_X9_in (fun v B hC => ?_) (fun E B hC => absurd hC.1 (by simp))
  obtain ⟨hv, rfl⟩ := hC
  cases hv
  refine xx_cst (st2 := [.int (xx_inn 4 0 6), .ref b]) rfl ?_
  refine xx_eqi (y := 1) (by decide) ?_
  refine xx_if_eq (tgt := 15) dX9_told_8 (by decide) (fun h => absurd h (by decide)) (fun j8 => ?_)
  refine xx_iconst (v := 0) dX9_told_11 (by decide) ?_
  refine xx_goto (tgt := 16) dX9_told_12 (by decide) ?_
  refine xx_put xx_c9 dX9_told_16 wf_X9_84 (j := 0) (by decide) rfl rfl rfl hb (Nat.le_of_ble_eq_true rfl) (xx_gu fun A2 z2 h2 o2 => ?_)
  have h2 : A2.2 b = xx_o 9 [.int 0, u1, u2, u3, .int 0, .int 0, u6, u7, u8, u9, .int (-1), .int 0, u12, u13, u14, .int 0, .int 0, u17, u18, u19, .ref am, u21, u22, u23, u24, u25, u26, u27, u28] := h2
  have hm_2 := (o2 am (by omega)).trans hm
  refine xx_aload_n dX9_told_19 rfl ?_
  refine xx_get xx_c9 dX9_told_20 wf_X9_84 (j := 0) (by decide) h2 rfl ?_
  refine xx_if_le (tgt := 31) dX9_told_23 (by decide) (fun j23 => ?_) (fun h => absurd (by decide) h)
  refine xx_iload_n dX9_told_31 rfl ?_
  refine xx_tableIn (tgt := 118) dX9_told_32 (by decide) (by decide) rfl (by decide) ?_
  refine xx_aload_n dX9_told_118 rfl ?_
  refine xx_get xx_c9 dX9_told_119 wf_X9_32 (j := 10) (by decide) h2 rfl ?_
  exact xx_iret dX9_told_122 rfl ⟨rfl, by rw [z2], h2, fun q hq => by rw [o2 q hq]⟩
set_option maxRecDepth 100000 in
theorem c_X9_told5 {G : xx_G} {l : Launch} {A : xx_H} {b am : Nat} {u0 u1 u2 u3 u6 u7 u8 u9 u12 u13 u14 u17 u18 u19 u21 u22 u23 u24 u25 u26 u27 u28 : Value} (hb : A.2 b = xx_o 9 [u0, u1, u2, u3, .int 0, .int 0, u6, u7, u8, u9, .int (-1), .int 0, u12, u13, u14, .int 0, .int 0, u17, u18, u19, .ref am, u21, u22, u23, u24, u25, u26, u27, u28]) {mu : Nat → Int64} (hm : A.2 am = xx_l 2 mu) (mm : am ≠ b) (e0 : mu 0 = 0) (e1 : mu 1 = 0) : xx_X G l mX9_told 1 0 0 0 (lv_args 0 [.ref b, .int 5]) [] A (xx_r1 (some (.int 0)) b [.int 0, u1, u2, u3, .int 0, .int 0, u6, u7, u8, u9, .int (-1), .int 0, u12, u13, u14, .int 0, .int 0, u17, u18, u19, .ref am, u21, u22, u23, u24, u25, u26, u27, u28] A) := by
  refine xx_clv (lv2 := [(0, .ref b), (1, .int 5)]) rfl ?_
  refine xx_aload_n dX9_told_0 rfl ?_
  refine xx_iload_n dX9_told_1 rfl ?_
  refine xx_iconst (v := 0) dX9_told_2 (by decide) ?_
  refine xx_bipush (v := 6) dX9_told_3 (by decide) ?_
  refine xx_callS (N := mX9_in) (vs := [.int 5, .int 0, .int 6]) (rest := [.ref b]) (d2 := 0) (c2 := 0) (s2 := 0) (c3 := 0) (s3 := 0) dX9_told_5 wm_X9_116 ws_X9_in wz_X9 (by decide) nX9_in ⟨pX9_in, Nat.le_of_ble_eq_true rfl, by decide, Nat.le_of_ble_eq_true rfl, by decide, by decide⟩ c_X9_in (fun v B hC => ?_) (fun E B hC => absurd hC.1 (by simp))
  obtain ⟨hv, rfl⟩ := hC
  cases hv
  refine xx_cst (st2 := [.int (xx_inn 5 0 6), .ref b]) rfl ?_
  refine xx_eqi (y := 1) (by decide) ?_
  refine xx_if_eq (tgt := 15) dX9_told_8 (by decide) (fun h => absurd h (by decide)) (fun j8 => ?_)
  refine xx_iconst (v := 0) dX9_told_11 (by decide) ?_
  refine xx_goto (tgt := 16) dX9_told_12 (by decide) ?_
  refine xx_put xx_c9 dX9_told_16 wf_X9_84 (j := 0) (by decide) rfl rfl rfl hb (Nat.le_of_ble_eq_true rfl) (xx_gu fun A2 z2 h2 o2 => ?_)
  have h2 : A2.2 b = xx_o 9 [.int 0, u1, u2, u3, .int 0, .int 0, u6, u7, u8, u9, .int (-1), .int 0, u12, u13, u14, .int 0, .int 0, u17, u18, u19, .ref am, u21, u22, u23, u24, u25, u26, u27, u28] := h2
  have hm_2 := (o2 am (by omega)).trans hm
  refine xx_aload_n dX9_told_19 rfl ?_
  refine xx_get xx_c9 dX9_told_20 wf_X9_84 (j := 0) (by decide) h2 rfl ?_
  refine xx_if_le (tgt := 31) dX9_told_23 (by decide) (fun j23 => ?_) (fun h => absurd (by decide) h)
  refine xx_iload_n dX9_told_31 rfl ?_
  refine xx_tableIn (tgt := 123) dX9_told_32 (by decide) (by decide) rfl (by decide) ?_
  refine xx_aload_n dX9_told_123 rfl ?_
  refine xx_get xx_c9 dX9_told_124 wf_X9_55 (j := 20) (by decide) h2 rfl ?_
  refine xx_iconst (v := 0) dX9_told_127 (by decide) ?_
  refine xx_lald dX9_told_128 hm_2 (by unfold vp_in; decide) ?_
  refine xx_eql (y := 0) e0 ?_
  refine xx_l2i dX9_told_129 ?_
  refine xx_eqi (y := 0) (by decide) ?_
  exact xx_iret dX9_told_130 rfl ⟨rfl, by rw [z2], h2, fun q hq => by rw [o2 q hq]⟩
set_option maxRecDepth 100000 in
theorem c_X9_told6 {G : xx_G} {l : Launch} {A : xx_H} {b am : Nat} {u0 u1 u2 u3 u6 u7 u8 u9 u12 u13 u14 u17 u18 u19 u21 u22 u23 u24 u25 u26 u27 u28 : Value} (hb : A.2 b = xx_o 9 [u0, u1, u2, u3, .int 0, .int 0, u6, u7, u8, u9, .int (-1), .int 0, u12, u13, u14, .int 0, .int 0, u17, u18, u19, .ref am, u21, u22, u23, u24, u25, u26, u27, u28]) {mu : Nat → Int64} (hm : A.2 am = xx_l 2 mu) (mm : am ≠ b) (e0 : mu 0 = 0) (e1 : mu 1 = 0) : xx_X G l mX9_told 1 0 0 0 (lv_args 0 [.ref b, .int 6]) [] A (xx_r1 (some (.int 0)) b [.int 0, u1, u2, u3, .int 0, .int 0, u6, u7, u8, u9, .int (-1), .int 0, u12, u13, u14, .int 0, .int 0, u17, u18, u19, .ref am, u21, u22, u23, u24, u25, u26, u27, u28] A) := by
  refine xx_clv (lv2 := [(0, .ref b), (1, .int 6)]) rfl ?_
  refine xx_aload_n dX9_told_0 rfl ?_
  refine xx_iload_n dX9_told_1 rfl ?_
  refine xx_iconst (v := 0) dX9_told_2 (by decide) ?_
  refine xx_bipush (v := 6) dX9_told_3 (by decide) ?_
  refine xx_callS (N := mX9_in) (vs := [.int 6, .int 0, .int 6]) (rest := [.ref b]) (d2 := 0) (c2 := 0) (s2 := 0) (c3 := 0) (s3 := 0) dX9_told_5 wm_X9_116 ws_X9_in wz_X9 (by decide) nX9_in ⟨pX9_in, Nat.le_of_ble_eq_true rfl, by decide, Nat.le_of_ble_eq_true rfl, by decide, by decide⟩ c_X9_in (fun v B hC => ?_) (fun E B hC => absurd hC.1 (by simp))
  obtain ⟨hv, rfl⟩ := hC
  cases hv
  refine xx_cst (st2 := [.int (xx_inn 6 0 6), .ref b]) rfl ?_
  refine xx_eqi (y := 1) (by decide) ?_
  refine xx_if_eq (tgt := 15) dX9_told_8 (by decide) (fun h => absurd h (by decide)) (fun j8 => ?_)
  refine xx_iconst (v := 0) dX9_told_11 (by decide) ?_
  refine xx_goto (tgt := 16) dX9_told_12 (by decide) ?_
  refine xx_put xx_c9 dX9_told_16 wf_X9_84 (j := 0) (by decide) rfl rfl rfl hb (Nat.le_of_ble_eq_true rfl) (xx_gu fun A2 z2 h2 o2 => ?_)
  have h2 : A2.2 b = xx_o 9 [.int 0, u1, u2, u3, .int 0, .int 0, u6, u7, u8, u9, .int (-1), .int 0, u12, u13, u14, .int 0, .int 0, u17, u18, u19, .ref am, u21, u22, u23, u24, u25, u26, u27, u28] := h2
  have hm_2 := (o2 am (by omega)).trans hm
  refine xx_aload_n dX9_told_19 rfl ?_
  refine xx_get xx_c9 dX9_told_20 wf_X9_84 (j := 0) (by decide) h2 rfl ?_
  refine xx_if_le (tgt := 31) dX9_told_23 (by decide) (fun j23 => ?_) (fun h => absurd (by decide) h)
  refine xx_iload_n dX9_told_31 rfl ?_
  refine xx_tableIn (tgt := 131) dX9_told_32 (by decide) (by decide) rfl (by decide) ?_
  refine xx_aload_n dX9_told_131 rfl ?_
  refine xx_get xx_c9 dX9_told_132 wf_X9_55 (j := 20) (by decide) h2 rfl ?_
  refine xx_iconst (v := 1) dX9_told_135 (by decide) ?_
  refine xx_lald dX9_told_136 hm_2 (by unfold vp_in; decide) ?_
  refine xx_eql (y := 0) e1 ?_
  refine xx_l2i dX9_told_137 ?_
  refine xx_eqi (y := 0) (by decide) ?_
  exact xx_iret dX9_told_138 rfl ⟨rfl, by rw [z2], h2, fun q hq => by rw [o2 q hq]⟩
set_option maxRecDepth 100000 in
theorem c_X9_toldX {G : xx_G} {l : Launch} {A : xx_H} {b  : Nat} {u0 u1 u2 u3 u4 u5 u6 u7 u8 u9 u10 u11 u12 u13 u14 u15 u16 u17 u18 u19 u20 u21 u22 u23 u24 u25 u26 u27 u28 : Value} {p : Int32} (hb : A.2 b = xx_o 9 [u0, u1, u2, u3, u4, u5, u6, u7, u8, u9, u10, u11, u12, u13, u14, u15, u16, u17, u18, u19, u20, u21, u22, u23, u24, u25, u26, u27, u28]) (hp : xx_inn p 0 6 = 0) : xx_X G l mX9_told 1 0 0 0 (lv_args 0 [.ref b, .int p]) [] A (xx_r1 (some (.int 0)) b [.int 1, u1, u2, u3, u4, u5, u6, u7, u8, u9, u10, u11, u12, u13, u14, u15, u16, u17, u18, u19, u20, u21, u22, u23, u24, u25, u26, u27, u28] A) := by
  refine xx_clv (lv2 := [(0, .ref b), (1, .int p)]) rfl ?_
  refine xx_aload_n dX9_told_0 rfl ?_
  refine xx_iload_n dX9_told_1 rfl ?_
  refine xx_iconst (v := 0) dX9_told_2 (by decide) ?_
  refine xx_bipush (v := 6) dX9_told_3 (by decide) ?_
  refine xx_callS (N := mX9_in) (vs := [.int p, .int 0, .int 6]) (rest := [.ref b]) (d2 := 0) (c2 := 0) (s2 := 0) (c3 := 0) (s3 := 0) dX9_told_5 wm_X9_116 ws_X9_in wz_X9 (by decide) nX9_in ⟨pX9_in, Nat.le_of_ble_eq_true rfl, by decide, Nat.le_of_ble_eq_true rfl, by decide, by decide⟩ c_X9_in (fun v B hC => ?_) (fun E B hC => absurd hC.1 (by simp))
  obtain ⟨hv, rfl⟩ := hC
  cases hv
  refine xx_cst (st2 := [.int (xx_inn p 0 6), .ref b]) rfl ?_
  refine xx_if_eq (tgt := 15) dX9_told_8 (by decide) (fun j8 => ?_) (fun h => absurd hp h)
  refine xx_iconst (v := 1) dX9_told_15 (by decide) ?_
  refine xx_put xx_c9 dX9_told_16 wf_X9_84 (j := 0) (by decide) rfl rfl rfl hb (Nat.le_of_ble_eq_true rfl) (xx_gu fun A2 z2 h2 o2 => ?_)
  have h2 : A2.2 b = xx_o 9 [.int 1, u1, u2, u3, u4, u5, u6, u7, u8, u9, u10, u11, u12, u13, u14, u15, u16, u17, u18, u19, u20, u21, u22, u23, u24, u25, u26, u27, u28] := h2
  refine xx_aload_n dX9_told_19 rfl ?_
  refine xx_get xx_c9 dX9_told_20 wf_X9_84 (j := 0) (by decide) h2 rfl ?_
  refine xx_if_le (tgt := 31) dX9_told_23 (by decide) (fun h => absurd h (by decide)) (fun j23 => ?_)
  refine xx_bipush (v := 7) dX9_told_26 (by decide) ?_
  refine xx_goto (tgt := 32) dX9_told_28 (by decide) ?_
  refine xx_tableOut (tgt := 139) dX9_told_32 (by decide) (by decide) ?_
  refine xx_iconst (v := 0) dX9_told_139 (by decide) ?_
  exact xx_iret dX9_told_140 rfl ⟨rfl, by rw [z2], h2, fun q hq => by rw [o2 q hq]⟩
set_option maxRecDepth 100000 in
theorem c_X9_partN0 {G : xx_G} {l : Launch} {A : xx_H} {b  : Nat} {u0 u1 u2 u3 u4 u5 u6 u7 u8 u9 u10 u11 u12 u13 u14 u15 u16 u17 u18 u19 u20 u21 u22 u23 u24 u25 u26 u27 u28 : Value} {p : Int32} (hb : A.2 b = xx_o 9 [u0, u1, u2, u3, u4, u5, u6, u7, u8, u9, u10, u11, u12, u13, u14, u15, u16, u17, u18, u19, u20, u21, u22, u23, u24, u25, u26, u27, u28]) (hp : p < 0) : xx_X G l mX9_part 0 0 0 0 (lv_args 0 [.ref b, .int 0, .int p]) [] A (xx_r1 (some (.long 0)) b [.int 1, u1, u2, u3, u4, u5, u6, u7, u8, u9, u10, u11, u12, u13, u14, u15, u16, u17, u18, u19, u20, u21, u22, u23, u24, u25, u26, u27, u28] A) := by
  refine xx_clv (lv2 := [(0, .ref b), (1, .int 0), (2, .int p)]) rfl ?_
  refine xx_aload_n dX9_part_0 rfl ?_
  refine xx_iload_n dX9_part_1 rfl ?_
  refine xx_if_ge (tgt := 9) dX9_part_2 (by decide) (fun h => absurd hp (Int32.not_lt.mpr h)) (fun j2 => ?_)
  refine xx_iconst (v := 1) dX9_part_5 (by decide) ?_
  refine xx_goto (tgt := 10) dX9_part_6 (by decide) ?_
  refine xx_put xx_c9 dX9_part_10 wf_X9_84 (j := 0) (by decide) rfl rfl rfl hb (Nat.le_of_ble_eq_true rfl) (xx_gu fun A1 z1 h1 o1 => ?_)
  have h1 : A1.2 b = xx_o 9 [.int 1, u1, u2, u3, u4, u5, u6, u7, u8, u9, u10, u11, u12, u13, u14, u15, u16, u17, u18, u19, u20, u21, u22, u23, u24, u25, u26, u27, u28] := h1
  refine xx_lconst (v := 0) dX9_part_13 (by decide) ?_
  refine xx_lstore_n dX9_part_14 (by decide) ?_
  refine xx_clv (lv2 := [(0, .ref b), (1, .int 0), (2, .int p), (3, .long 0)]) rfl ?_
  refine xx_iload_n dX9_part_15 rfl ?_
  refine xx_if_eq (tgt := 24) dX9_part_16 (by decide) (fun j16 => ?_) (fun h => absurd (by decide) h)
  refine xx_bipush (v := 16) dX9_part_24 (by decide) ?_
  refine xx_istore dX9_part_26 (by decide) ?_
  refine xx_clv (lv2 := [(0, .ref b), (1, .int 0), (2, .int p), (3, .long 0), (5, .int 16)]) rfl ?_
  refine xx_iconst (v := 3) dX9_part_28 (by decide) ?_
  refine xx_istore dX9_part_29 (by decide) ?_
  refine xx_clv (lv2 := [(0, .ref b), (1, .int 0), (2, .int p), (3, .long 0), (5, .int 16), (6, .int 3)]) rfl ?_
  refine xx_iload dX9_part_31 rfl ?_
  refine xx_if_lt (tgt := 99) dX9_part_33 (by decide) (fun h => absurd h (by decide)) (fun j33 => ?_)
  refine xx_aload_n dX9_part_36 rfl ?_
  refine xx_get xx_c9 dX9_part_37 wf_X9_84 (j := 0) (by decide) h1 rfl ?_
  refine xx_if_ne (tgt := 99) dX9_part_40 (by decide) (fun j40 => ?_) (fun h => absurd h (by decide))
  refine xx_lload_n dX9_part_99 rfl ?_
  exact xx_lret dX9_part_100 rfl ⟨rfl, by rw [z1], h1, fun q hq => by rw [o1 q hq]⟩
set_option maxRecDepth 100000 in
theorem c_X9_partB0 {G : xx_G} {l : Launch} {A : xx_H} {b  : Nat} {u0 u1 u2 u3 u4 u5 u6 u7 u8 u9 u10 u11 u12 u13 u14 u15 u16 u17 u18 u19 u20 u21 u22 u23 u24 u25 u26 u27 u28 : Value} {p : Int32} (hb : A.2 b = xx_o 9 [u0, u1, u2, u3, u4, u5, u6, u7, u8, u9, u10, u11, u12, u13, u14, u15, u16, u17, u18, u19, u20, u21, u22, u23, u24, u25, u26, u27, u28]) (hp : 20 ≤ p) : xx_X G l mX9_part 0 0 0 0 (lv_args 0 [.ref b, .int 0, .int p]) [] A (xx_r1 (some (.long 0)) b [.int 0, u1, u2, u3, u4, u5, u6, u7, u8, u9, u10, u11, u12, u13, u14, u15, u16, u17, u18, u19, u20, u21, u22, u23, u24, u25, u26, u27, u28] A) := by
  refine xx_clv (lv2 := [(0, .ref b), (1, .int 0), (2, .int p)]) rfl ?_
  refine xx_aload_n dX9_part_0 rfl ?_
  refine xx_iload_n dX9_part_1 rfl ?_
  refine xx_if_ge (tgt := 9) dX9_part_2 (by decide) (fun j2 => ?_) (fun h => absurd (Int32.le_trans (by decide) hp) h)
  refine xx_iconst (v := 0) dX9_part_9 (by decide) ?_
  refine xx_put xx_c9 dX9_part_10 wf_X9_84 (j := 0) (by decide) rfl rfl rfl hb (Nat.le_of_ble_eq_true rfl) (xx_gu fun A1 z1 h1 o1 => ?_)
  have h1 : A1.2 b = xx_o 9 [.int 0, u1, u2, u3, u4, u5, u6, u7, u8, u9, u10, u11, u12, u13, u14, u15, u16, u17, u18, u19, u20, u21, u22, u23, u24, u25, u26, u27, u28] := h1
  refine xx_lconst (v := 0) dX9_part_13 (by decide) ?_
  refine xx_lstore_n dX9_part_14 (by decide) ?_
  refine xx_clv (lv2 := [(0, .ref b), (1, .int 0), (2, .int p), (3, .long 0)]) rfl ?_
  refine xx_iload_n dX9_part_15 rfl ?_
  refine xx_if_eq (tgt := 24) dX9_part_16 (by decide) (fun j16 => ?_) (fun h => absurd (by decide) h)
  refine xx_bipush (v := 16) dX9_part_24 (by decide) ?_
  refine xx_istore dX9_part_26 (by decide) ?_
  refine xx_clv (lv2 := [(0, .ref b), (1, .int 0), (2, .int p), (3, .long 0), (5, .int 16)]) rfl ?_
  refine xx_iconst (v := 3) dX9_part_28 (by decide) ?_
  refine xx_istore dX9_part_29 (by decide) ?_
  refine xx_clv (lv2 := [(0, .ref b), (1, .int 0), (2, .int p), (3, .long 0), (5, .int 16), (6, .int 3)]) rfl ?_
  refine xx_iload dX9_part_31 rfl ?_
  refine xx_if_lt (tgt := 99) dX9_part_33 (by decide) (fun h => absurd h (by decide)) (fun j33 => ?_)
  refine xx_aload_n dX9_part_36 rfl ?_
  refine xx_get xx_c9 dX9_part_37 wf_X9_84 (j := 0) (by decide) h1 rfl ?_
  refine xx_if_ne (tgt := 99) dX9_part_40 (by decide) (fun h => absurd rfl h) (fun j40 => ?_)
  refine xx_iload_n dX9_part_43 rfl ?_
  refine xx_bipush (v := 20) dX9_part_44 (by decide) ?_
  refine xx_icmp_ge (tgt := 99) dX9_part_46 (by decide) (fun j46 => ?_) (fun h => absurd hp h)
  refine xx_lload_n dX9_part_99 rfl ?_
  exact xx_lret dX9_part_100 rfl ⟨rfl, by rw [z1], h1, fun q hq => by rw [o1 q hq]⟩
set_option maxRecDepth 100000 in
theorem c_X9_partN1 {G : xx_G} {l : Launch} {A : xx_H} {b  : Nat} {u0 u1 u2 u3 u4 u5 u6 u7 u8 u9 u10 u11 u12 u13 u14 u15 u16 u17 u18 u19 u20 u21 u22 u23 u24 u25 u26 u27 u28 : Value} {p : Int32} (hb : A.2 b = xx_o 9 [u0, u1, u2, u3, u4, u5, u6, u7, u8, u9, u10, u11, u12, u13, u14, u15, u16, u17, u18, u19, u20, u21, u22, u23, u24, u25, u26, u27, u28]) (hp : p < 0) : xx_X G l mX9_part 0 0 0 0 (lv_args 0 [.ref b, .int 1, .int p]) [] A (xx_r1 (some (.long 0)) b [.int 1, u1, u2, u3, u4, u5, u6, u7, u8, u9, u10, u11, u12, u13, u14, u15, u16, u17, u18, u19, u20, u21, u22, u23, u24, u25, u26, u27, u28] A) := by
  refine xx_clv (lv2 := [(0, .ref b), (1, .int 1), (2, .int p)]) rfl ?_
  refine xx_aload_n dX9_part_0 rfl ?_
  refine xx_iload_n dX9_part_1 rfl ?_
  refine xx_if_ge (tgt := 9) dX9_part_2 (by decide) (fun h => absurd hp (Int32.not_lt.mpr h)) (fun j2 => ?_)
  refine xx_iconst (v := 1) dX9_part_5 (by decide) ?_
  refine xx_goto (tgt := 10) dX9_part_6 (by decide) ?_
  refine xx_put xx_c9 dX9_part_10 wf_X9_84 (j := 0) (by decide) rfl rfl rfl hb (Nat.le_of_ble_eq_true rfl) (xx_gu fun A1 z1 h1 o1 => ?_)
  have h1 : A1.2 b = xx_o 9 [.int 1, u1, u2, u3, u4, u5, u6, u7, u8, u9, u10, u11, u12, u13, u14, u15, u16, u17, u18, u19, u20, u21, u22, u23, u24, u25, u26, u27, u28] := h1
  refine xx_lconst (v := 0) dX9_part_13 (by decide) ?_
  refine xx_lstore_n dX9_part_14 (by decide) ?_
  refine xx_clv (lv2 := [(0, .ref b), (1, .int 1), (2, .int p), (3, .long 0)]) rfl ?_
  refine xx_iload_n dX9_part_15 rfl ?_
  refine xx_if_eq (tgt := 24) dX9_part_16 (by decide) (fun h => absurd h (by decide)) (fun j16 => ?_)
  refine xx_bipush (v := 17) dX9_part_19 (by decide) ?_
  refine xx_goto (tgt := 26) dX9_part_21 (by decide) ?_
  refine xx_istore dX9_part_26 (by decide) ?_
  refine xx_clv (lv2 := [(0, .ref b), (1, .int 1), (2, .int p), (3, .long 0), (5, .int 17)]) rfl ?_
  refine xx_iconst (v := 3) dX9_part_28 (by decide) ?_
  refine xx_istore dX9_part_29 (by decide) ?_
  refine xx_clv (lv2 := [(0, .ref b), (1, .int 1), (2, .int p), (3, .long 0), (5, .int 17), (6, .int 3)]) rfl ?_
  refine xx_iload dX9_part_31 rfl ?_
  refine xx_if_lt (tgt := 99) dX9_part_33 (by decide) (fun h => absurd h (by decide)) (fun j33 => ?_)
  refine xx_aload_n dX9_part_36 rfl ?_
  refine xx_get xx_c9 dX9_part_37 wf_X9_84 (j := 0) (by decide) h1 rfl ?_
  refine xx_if_ne (tgt := 99) dX9_part_40 (by decide) (fun j40 => ?_) (fun h => absurd h (by decide))
  refine xx_lload_n dX9_part_99 rfl ?_
  exact xx_lret dX9_part_100 rfl ⟨rfl, by rw [z1], h1, fun q hq => by rw [o1 q hq]⟩
set_option maxRecDepth 100000 in
theorem c_X9_partB1 {G : xx_G} {l : Launch} {A : xx_H} {b  : Nat} {u0 u1 u2 u3 u4 u5 u6 u7 u8 u9 u10 u11 u12 u13 u14 u15 u16 u17 u18 u19 u20 u21 u22 u23 u24 u25 u26 u27 u28 : Value} {p : Int32} (hb : A.2 b = xx_o 9 [u0, u1, u2, u3, u4, u5, u6, u7, u8, u9, u10, u11, u12, u13, u14, u15, u16, u17, u18, u19, u20, u21, u22, u23, u24, u25, u26, u27, u28]) (hp : 20 ≤ p) : xx_X G l mX9_part 0 0 0 0 (lv_args 0 [.ref b, .int 1, .int p]) [] A (xx_r1 (some (.long 0)) b [.int 0, u1, u2, u3, u4, u5, u6, u7, u8, u9, u10, u11, u12, u13, u14, u15, u16, u17, u18, u19, u20, u21, u22, u23, u24, u25, u26, u27, u28] A) := by
  refine xx_clv (lv2 := [(0, .ref b), (1, .int 1), (2, .int p)]) rfl ?_
  refine xx_aload_n dX9_part_0 rfl ?_
  refine xx_iload_n dX9_part_1 rfl ?_
  refine xx_if_ge (tgt := 9) dX9_part_2 (by decide) (fun j2 => ?_) (fun h => absurd (Int32.le_trans (by decide) hp) h)
  refine xx_iconst (v := 0) dX9_part_9 (by decide) ?_
  refine xx_put xx_c9 dX9_part_10 wf_X9_84 (j := 0) (by decide) rfl rfl rfl hb (Nat.le_of_ble_eq_true rfl) (xx_gu fun A1 z1 h1 o1 => ?_)
  have h1 : A1.2 b = xx_o 9 [.int 0, u1, u2, u3, u4, u5, u6, u7, u8, u9, u10, u11, u12, u13, u14, u15, u16, u17, u18, u19, u20, u21, u22, u23, u24, u25, u26, u27, u28] := h1
  refine xx_lconst (v := 0) dX9_part_13 (by decide) ?_
  refine xx_lstore_n dX9_part_14 (by decide) ?_
  refine xx_clv (lv2 := [(0, .ref b), (1, .int 1), (2, .int p), (3, .long 0)]) rfl ?_
  refine xx_iload_n dX9_part_15 rfl ?_
  refine xx_if_eq (tgt := 24) dX9_part_16 (by decide) (fun h => absurd h (by decide)) (fun j16 => ?_)
  refine xx_bipush (v := 17) dX9_part_19 (by decide) ?_
  refine xx_goto (tgt := 26) dX9_part_21 (by decide) ?_
  refine xx_istore dX9_part_26 (by decide) ?_
  refine xx_clv (lv2 := [(0, .ref b), (1, .int 1), (2, .int p), (3, .long 0), (5, .int 17)]) rfl ?_
  refine xx_iconst (v := 3) dX9_part_28 (by decide) ?_
  refine xx_istore dX9_part_29 (by decide) ?_
  refine xx_clv (lv2 := [(0, .ref b), (1, .int 1), (2, .int p), (3, .long 0), (5, .int 17), (6, .int 3)]) rfl ?_
  refine xx_iload dX9_part_31 rfl ?_
  refine xx_if_lt (tgt := 99) dX9_part_33 (by decide) (fun h => absurd h (by decide)) (fun j33 => ?_)
  refine xx_aload_n dX9_part_36 rfl ?_
  refine xx_get xx_c9 dX9_part_37 wf_X9_84 (j := 0) (by decide) h1 rfl ?_
  refine xx_if_ne (tgt := 99) dX9_part_40 (by decide) (fun h => absurd rfl h) (fun j40 => ?_)
  refine xx_iload_n dX9_part_43 rfl ?_
  refine xx_bipush (v := 20) dX9_part_44 (by decide) ?_
  refine xx_icmp_ge (tgt := 99) dX9_part_46 (by decide) (fun j46 => ?_) (fun h => absurd hp h)
  refine xx_lload_n dX9_part_99 rfl ?_
  exact xx_lret dX9_part_100 rfl ⟨rfl, by rw [z1], h1, fun q hq => by rw [o1 q hq]⟩
set_option maxRecDepth 100000 in
theorem c_X9_part0 {G : xx_G} {l : Launch} {A : xx_H} {b a1 a2 : Nat} {u0 u3 u4 u5 u6 u7 u8 u9 u10 u11 u12 u13 u14 u15 u16 u17 u18 u19 u20 u21 u22 u23 u24 u25 u26 u27 u28 : Value} {p : Int32} (hb : A.2 b = xx_o 9 [u0, .ref a1, .ref a2, u3, u4, u5, u6, u7, u8, u9, u10, u11, u12, u13, u14, u15, u16, u17, u18, u19, u20, u21, u22, u23, u24, u25, u26, u27, u28]) {P Z : Nat → Int32} (hP : A.2 a1 = xx_i 69600 P) (hZ : A.2 a2 = xx_i 1740 Z) (m1 : a1 ≠ b) (m2 : a2 ≠ b) (g0 : Z 16 = 0) (g1 : Z 17 = 1) (q1 : P 680 = 1) (hp : ¬ p < 0) (hq : ¬ 20 ≤ p) : xx_X G l mX9_part 0 0 0 0 (lv_args 0 [.ref b, .int 0, .int p]) [] A (xx_r1 (some (.long 0)) b [.int 0, .ref a1, .ref a2, u3, u4, u5, u6, u7, u8, u9, u10, u11, u12, u13, u14, u15, u16, u17, u18, u19, u20, u21, u22, u23, u24, u25, u26, u27, u28] A) := by
  refine xx_clv (lv2 := [(0, .ref b), (1, .int 0), (2, .int p)]) rfl ?_
  refine xx_aload_n dX9_part_0 rfl ?_
  refine xx_iload_n dX9_part_1 rfl ?_
  refine xx_if_ge (tgt := 9) dX9_part_2 (by decide) (fun j2 => ?_) (fun h => absurd (Int32.not_lt.mp hp) h)
  refine xx_iconst (v := 0) dX9_part_9 (by decide) ?_
  refine xx_put xx_c9 dX9_part_10 wf_X9_84 (j := 0) (by decide) rfl rfl rfl hb (Nat.le_of_ble_eq_true rfl) (xx_gu fun A1 z1 h1 o1 => ?_)
  have h1 : A1.2 b = xx_o 9 [.int 0, .ref a1, .ref a2, u3, u4, u5, u6, u7, u8, u9, u10, u11, u12, u13, u14, u15, u16, u17, u18, u19, u20, u21, u22, u23, u24, u25, u26, u27, u28] := h1
  have hP_1 := (o1 a1 (by omega)).trans hP
  have hZ_1 := (o1 a2 (by omega)).trans hZ
  refine xx_lconst (v := 0) dX9_part_13 (by decide) ?_
  refine xx_lstore_n dX9_part_14 (by decide) ?_
  refine xx_clv (lv2 := [(0, .ref b), (1, .int 0), (2, .int p), (3, .long 0)]) rfl ?_
  refine xx_iload_n dX9_part_15 rfl ?_
  refine xx_if_eq (tgt := 24) dX9_part_16 (by decide) (fun j16 => ?_) (fun h => absurd (by decide) h)
  refine xx_bipush (v := 16) dX9_part_24 (by decide) ?_
  refine xx_istore dX9_part_26 (by decide) ?_
  refine xx_clv (lv2 := [(0, .ref b), (1, .int 0), (2, .int p), (3, .long 0), (5, .int 16)]) rfl ?_
  refine xx_iconst (v := 3) dX9_part_28 (by decide) ?_
  refine xx_istore dX9_part_29 (by decide) ?_
  refine xx_clv (lv2 := [(0, .ref b), (1, .int 0), (2, .int p), (3, .long 0), (5, .int 16), (6, .int 3)]) rfl ?_
  refine xx_iload dX9_part_31 rfl ?_
  refine xx_if_lt (tgt := 99) dX9_part_33 (by decide) (fun h => absurd h (by decide)) (fun j33 => ?_)
  refine xx_aload_n dX9_part_36 rfl ?_
  refine xx_get xx_c9 dX9_part_37 wf_X9_84 (j := 0) (by decide) h1 rfl ?_
  refine xx_if_ne (tgt := 99) dX9_part_40 (by decide) (fun h => absurd rfl h) (fun j40 => ?_)
  refine xx_iload_n dX9_part_43 rfl ?_
  refine xx_bipush (v := 20) dX9_part_44 (by decide) ?_
  refine xx_icmp_ge (tgt := 99) dX9_part_46 (by decide) (fun h => absurd h hq) (fun j46 => ?_)
  refine xx_iconst (v := 4) dX9_part_49 (by decide) ?_
  refine xx_iload_n dX9_part_50 rfl ?_
  refine xx_imul dX9_part_51 ?_
  refine xx_iload dX9_part_52 rfl ?_
  refine xx_iadd dX9_part_54 ?_
  refine xx_istore dX9_part_55 (by decide) ?_
  refine xx_clv (lv2 := [(0, .ref b), (1, .int 0), (2, .int p), (3, .long 0), (5, .int 16), (6, .int 3), (7, .int (((4 * p)) + 3))]) rfl ?_
  refine xx_lload_n dX9_part_57 rfl ?_
  refine xx_bipush (v := 16) dX9_part_58 (by decide) ?_
  refine xx_lshl dX9_part_60 ?_
  refine xx_eql (y := 0) (by decide) ?_
  refine xx_iload dX9_part_61 rfl ?_
  refine xx_aload_n dX9_part_63 rfl ?_
  refine xx_get xx_c9 dX9_part_64 wf_X9_14 (j := 2) (by decide) h1 rfl ?_
  refine xx_iload dX9_part_67 rfl ?_
  refine xx_iald dX9_part_69 hZ_1 (by unfold vp_in; decide) ?_
  refine xx_eqi (y := 0) g0 ?_
  refine xx_icmp_ge (tgt := 89) dX9_part_70 (by decide) (fun j70 => ?_) (fun h => absurd (xx_a0 hp hq).1 h)
  refine xx_iconst (v := 0) dX9_part_89 (by decide) ?_
  refine xx_i2l dX9_part_90 ?_
  refine xx_eql (y := 0) (by decide) ?_
  refine xx_lor dX9_part_91 ?_
  refine xx_eql (y := 0) (by decide) ?_
  refine xx_lstore_n dX9_part_92 (by decide) ?_
  refine xx_clv (lv2 := [(0, .ref b), (1, .int 0), (2, .int p), (3, .long 0), (5, .int 16), (6, .int 3), (7, .int (((4 * p)) + 3))]) rfl ?_
  refine xx_iinc (v := 2) dX9_part_93 rfl (by decide) (by decide) ?_
  refine xx_clv (lv2 := [(0, .ref b), (1, .int 0), (2, .int p), (3, .long 0), (5, .int 16), (6, .int 2), (7, .int (((4 * p)) + 3))]) rfl ?_
  refine xx_goto (tgt := 31) dX9_part_96 (by decide) ?_
  refine xx_iload dX9_part_31 rfl ?_
  refine xx_if_lt (tgt := 99) dX9_part_33 (by decide) (fun h => absurd h (by decide)) (fun j33 => ?_)
  refine xx_aload_n dX9_part_36 rfl ?_
  refine xx_get xx_c9 dX9_part_37 wf_X9_84 (j := 0) (by decide) h1 rfl ?_
  refine xx_if_ne (tgt := 99) dX9_part_40 (by decide) (fun h => absurd rfl h) (fun j40 => ?_)
  refine xx_iload_n dX9_part_43 rfl ?_
  refine xx_bipush (v := 20) dX9_part_44 (by decide) ?_
  refine xx_icmp_ge (tgt := 99) dX9_part_46 (by decide) (fun h => absurd h hq) (fun j46 => ?_)
  refine xx_iconst (v := 4) dX9_part_49 (by decide) ?_
  refine xx_iload_n dX9_part_50 rfl ?_
  refine xx_imul dX9_part_51 ?_
  refine xx_iload dX9_part_52 rfl ?_
  refine xx_iadd dX9_part_54 ?_
  refine xx_istore dX9_part_55 (by decide) ?_
  refine xx_clv (lv2 := [(0, .ref b), (1, .int 0), (2, .int p), (3, .long 0), (5, .int 16), (6, .int 2), (7, .int (((4 * p)) + 2))]) rfl ?_
  refine xx_lload_n dX9_part_57 rfl ?_
  refine xx_bipush (v := 16) dX9_part_58 (by decide) ?_
  refine xx_lshl dX9_part_60 ?_
  refine xx_eql (y := 0) (by decide) ?_
  refine xx_iload dX9_part_61 rfl ?_
  refine xx_aload_n dX9_part_63 rfl ?_
  refine xx_get xx_c9 dX9_part_64 wf_X9_14 (j := 2) (by decide) h1 rfl ?_
  refine xx_iload dX9_part_67 rfl ?_
  refine xx_iald dX9_part_69 hZ_1 (by unfold vp_in; decide) ?_
  refine xx_eqi (y := 0) g0 ?_
  refine xx_icmp_ge (tgt := 89) dX9_part_70 (by decide) (fun j70 => ?_) (fun h => absurd (xx_a0 hp hq).2.1 h)
  refine xx_iconst (v := 0) dX9_part_89 (by decide) ?_
  refine xx_i2l dX9_part_90 ?_
  refine xx_eql (y := 0) (by decide) ?_
  refine xx_lor dX9_part_91 ?_
  refine xx_eql (y := 0) (by decide) ?_
  refine xx_lstore_n dX9_part_92 (by decide) ?_
  refine xx_clv (lv2 := [(0, .ref b), (1, .int 0), (2, .int p), (3, .long 0), (5, .int 16), (6, .int 2), (7, .int (((4 * p)) + 2))]) rfl ?_
  refine xx_iinc (v := 1) dX9_part_93 rfl (by decide) (by decide) ?_
  refine xx_clv (lv2 := [(0, .ref b), (1, .int 0), (2, .int p), (3, .long 0), (5, .int 16), (6, .int 1), (7, .int (((4 * p)) + 2))]) rfl ?_
  refine xx_goto (tgt := 31) dX9_part_96 (by decide) ?_
  refine xx_iload dX9_part_31 rfl ?_
  refine xx_if_lt (tgt := 99) dX9_part_33 (by decide) (fun h => absurd h (by decide)) (fun j33 => ?_)
  refine xx_aload_n dX9_part_36 rfl ?_
  refine xx_get xx_c9 dX9_part_37 wf_X9_84 (j := 0) (by decide) h1 rfl ?_
  refine xx_if_ne (tgt := 99) dX9_part_40 (by decide) (fun h => absurd rfl h) (fun j40 => ?_)
  refine xx_iload_n dX9_part_43 rfl ?_
  refine xx_bipush (v := 20) dX9_part_44 (by decide) ?_
  refine xx_icmp_ge (tgt := 99) dX9_part_46 (by decide) (fun h => absurd h hq) (fun j46 => ?_)
  refine xx_iconst (v := 4) dX9_part_49 (by decide) ?_
  refine xx_iload_n dX9_part_50 rfl ?_
  refine xx_imul dX9_part_51 ?_
  refine xx_iload dX9_part_52 rfl ?_
  refine xx_iadd dX9_part_54 ?_
  refine xx_istore dX9_part_55 (by decide) ?_
  refine xx_clv (lv2 := [(0, .ref b), (1, .int 0), (2, .int p), (3, .long 0), (5, .int 16), (6, .int 1), (7, .int (((4 * p)) + 1))]) rfl ?_
  refine xx_lload_n dX9_part_57 rfl ?_
  refine xx_bipush (v := 16) dX9_part_58 (by decide) ?_
  refine xx_lshl dX9_part_60 ?_
  refine xx_eql (y := 0) (by decide) ?_
  refine xx_iload dX9_part_61 rfl ?_
  refine xx_aload_n dX9_part_63 rfl ?_
  refine xx_get xx_c9 dX9_part_64 wf_X9_14 (j := 2) (by decide) h1 rfl ?_
  refine xx_iload dX9_part_67 rfl ?_
  refine xx_iald dX9_part_69 hZ_1 (by unfold vp_in; decide) ?_
  refine xx_eqi (y := 0) g0 ?_
  refine xx_icmp_ge (tgt := 89) dX9_part_70 (by decide) (fun j70 => ?_) (fun h => absurd (xx_a0 hp hq).2.2.1 h)
  refine xx_iconst (v := 0) dX9_part_89 (by decide) ?_
  refine xx_i2l dX9_part_90 ?_
  refine xx_eql (y := 0) (by decide) ?_
  refine xx_lor dX9_part_91 ?_
  refine xx_eql (y := 0) (by decide) ?_
  refine xx_lstore_n dX9_part_92 (by decide) ?_
  refine xx_clv (lv2 := [(0, .ref b), (1, .int 0), (2, .int p), (3, .long 0), (5, .int 16), (6, .int 1), (7, .int (((4 * p)) + 1))]) rfl ?_
  refine xx_iinc (v := 0) dX9_part_93 rfl (by decide) (by decide) ?_
  refine xx_clv (lv2 := [(0, .ref b), (1, .int 0), (2, .int p), (3, .long 0), (5, .int 16), (6, .int 0), (7, .int (((4 * p)) + 1))]) rfl ?_
  refine xx_goto (tgt := 31) dX9_part_96 (by decide) ?_
  refine xx_iload dX9_part_31 rfl ?_
  refine xx_if_lt (tgt := 99) dX9_part_33 (by decide) (fun h => absurd h (by decide)) (fun j33 => ?_)
  refine xx_aload_n dX9_part_36 rfl ?_
  refine xx_get xx_c9 dX9_part_37 wf_X9_84 (j := 0) (by decide) h1 rfl ?_
  refine xx_if_ne (tgt := 99) dX9_part_40 (by decide) (fun h => absurd rfl h) (fun j40 => ?_)
  refine xx_iload_n dX9_part_43 rfl ?_
  refine xx_bipush (v := 20) dX9_part_44 (by decide) ?_
  refine xx_icmp_ge (tgt := 99) dX9_part_46 (by decide) (fun h => absurd h hq) (fun j46 => ?_)
  refine xx_iconst (v := 4) dX9_part_49 (by decide) ?_
  refine xx_iload_n dX9_part_50 rfl ?_
  refine xx_imul dX9_part_51 ?_
  refine xx_iload dX9_part_52 rfl ?_
  refine xx_iadd dX9_part_54 ?_
  refine xx_istore dX9_part_55 (by decide) ?_
  refine xx_clv (lv2 := [(0, .ref b), (1, .int 0), (2, .int p), (3, .long 0), (5, .int 16), (6, .int 0), (7, .int (((4 * p)) + 0))]) rfl ?_
  refine xx_lload_n dX9_part_57 rfl ?_
  refine xx_bipush (v := 16) dX9_part_58 (by decide) ?_
  refine xx_lshl dX9_part_60 ?_
  refine xx_eql (y := 0) (by decide) ?_
  refine xx_iload dX9_part_61 rfl ?_
  refine xx_aload_n dX9_part_63 rfl ?_
  refine xx_get xx_c9 dX9_part_64 wf_X9_14 (j := 2) (by decide) h1 rfl ?_
  refine xx_iload dX9_part_67 rfl ?_
  refine xx_iald dX9_part_69 hZ_1 (by unfold vp_in; decide) ?_
  refine xx_eqi (y := 0) g0 ?_
  refine xx_icmp_ge (tgt := 89) dX9_part_70 (by decide) (fun j70 => ?_) (fun h => absurd (xx_a0 hp hq).2.2.2 h)
  refine xx_iconst (v := 0) dX9_part_89 (by decide) ?_
  refine xx_i2l dX9_part_90 ?_
  refine xx_eql (y := 0) (by decide) ?_
  refine xx_lor dX9_part_91 ?_
  refine xx_eql (y := 0) (by decide) ?_
  refine xx_lstore_n dX9_part_92 (by decide) ?_
  refine xx_clv (lv2 := [(0, .ref b), (1, .int 0), (2, .int p), (3, .long 0), (5, .int 16), (6, .int 0), (7, .int (((4 * p)) + 0))]) rfl ?_
  refine xx_iinc (v := (-1)) dX9_part_93 rfl (by decide) (by decide) ?_
  refine xx_clv (lv2 := [(0, .ref b), (1, .int 0), (2, .int p), (3, .long 0), (5, .int 16), (6, .int (-1)), (7, .int (((4 * p)) + 0))]) rfl ?_
  refine xx_goto (tgt := 31) dX9_part_96 (by decide) ?_
  refine xx_iload dX9_part_31 rfl ?_
  refine xx_if_lt (tgt := 99) dX9_part_33 (by decide) (fun j33 => ?_) (fun h => absurd (by decide) h)
  refine xx_lload_n dX9_part_99 rfl ?_
  exact xx_lret dX9_part_100 rfl ⟨rfl, by rw [z1], h1, fun q hq => by rw [o1 q hq]⟩
set_option maxRecDepth 100000 in
theorem c_X9_part1 {G : xx_G} {l : Launch} {A : xx_H} {b a1 a2 : Nat} {u0 u3 u4 u5 u6 u7 u8 u9 u10 u11 u12 u13 u14 u15 u16 u17 u18 u19 u20 u21 u22 u23 u24 u25 u26 u27 u28 : Value} (hb : A.2 b = xx_o 9 [u0, .ref a1, .ref a2, u3, u4, u5, u6, u7, u8, u9, u10, u11, u12, u13, u14, u15, u16, u17, u18, u19, u20, u21, u22, u23, u24, u25, u26, u27, u28]) {P Z : Nat → Int32} (hP : A.2 a1 = xx_i 69600 P) (hZ : A.2 a2 = xx_i 1740 Z) (m1 : a1 ≠ b) (m2 : a2 ≠ b) (g0 : Z 16 = 0) (g1 : Z 17 = 1) (q1 : P 680 = 1) : xx_X G l mX9_part 0 0 0 0 (lv_args 0 [.ref b, .int 1, .int 0]) [] A (xx_r1 (some (.long 1)) b [.int 0, .ref a1, .ref a2, u3, u4, u5, u6, u7, u8, u9, u10, u11, u12, u13, u14, u15, u16, u17, u18, u19, u20, u21, u22, u23, u24, u25, u26, u27, u28] A) := by
  refine xx_clv (lv2 := [(0, .ref b), (1, .int 1), (2, .int 0)]) rfl ?_
  refine xx_aload_n dX9_part_0 rfl ?_
  refine xx_iload_n dX9_part_1 rfl ?_
  refine xx_if_ge (tgt := 9) dX9_part_2 (by decide) (fun j2 => ?_) (fun h => absurd (by decide) h)
  refine xx_iconst (v := 0) dX9_part_9 (by decide) ?_
  refine xx_put xx_c9 dX9_part_10 wf_X9_84 (j := 0) (by decide) rfl rfl rfl hb (Nat.le_of_ble_eq_true rfl) (xx_gu fun A1 z1 h1 o1 => ?_)
  have h1 : A1.2 b = xx_o 9 [.int 0, .ref a1, .ref a2, u3, u4, u5, u6, u7, u8, u9, u10, u11, u12, u13, u14, u15, u16, u17, u18, u19, u20, u21, u22, u23, u24, u25, u26, u27, u28] := h1
  have hP_1 := (o1 a1 (by omega)).trans hP
  have hZ_1 := (o1 a2 (by omega)).trans hZ
  refine xx_lconst (v := 0) dX9_part_13 (by decide) ?_
  refine xx_lstore_n dX9_part_14 (by decide) ?_
  refine xx_clv (lv2 := [(0, .ref b), (1, .int 1), (2, .int 0), (3, .long 0)]) rfl ?_
  refine xx_iload_n dX9_part_15 rfl ?_
  refine xx_if_eq (tgt := 24) dX9_part_16 (by decide) (fun h => absurd h (by decide)) (fun j16 => ?_)
  refine xx_bipush (v := 17) dX9_part_19 (by decide) ?_
  refine xx_goto (tgt := 26) dX9_part_21 (by decide) ?_
  refine xx_istore dX9_part_26 (by decide) ?_
  refine xx_clv (lv2 := [(0, .ref b), (1, .int 1), (2, .int 0), (3, .long 0), (5, .int 17)]) rfl ?_
  refine xx_iconst (v := 3) dX9_part_28 (by decide) ?_
  refine xx_istore dX9_part_29 (by decide) ?_
  refine xx_clv (lv2 := [(0, .ref b), (1, .int 1), (2, .int 0), (3, .long 0), (5, .int 17), (6, .int 3)]) rfl ?_
  refine xx_iload dX9_part_31 rfl ?_
  refine xx_if_lt (tgt := 99) dX9_part_33 (by decide) (fun h => absurd h (by decide)) (fun j33 => ?_)
  refine xx_aload_n dX9_part_36 rfl ?_
  refine xx_get xx_c9 dX9_part_37 wf_X9_84 (j := 0) (by decide) h1 rfl ?_
  refine xx_if_ne (tgt := 99) dX9_part_40 (by decide) (fun h => absurd rfl h) (fun j40 => ?_)
  refine xx_iload_n dX9_part_43 rfl ?_
  refine xx_bipush (v := 20) dX9_part_44 (by decide) ?_
  refine xx_icmp_ge (tgt := 99) dX9_part_46 (by decide) (fun h => absurd h (by decide)) (fun j46 => ?_)
  refine xx_iconst (v := 4) dX9_part_49 (by decide) ?_
  refine xx_iload_n dX9_part_50 rfl ?_
  refine xx_imul dX9_part_51 ?_
  refine xx_eqi (y := 0) (by decide) ?_
  refine xx_iload dX9_part_52 rfl ?_
  refine xx_iadd dX9_part_54 ?_
  refine xx_eqi (y := 3) (by decide) ?_
  refine xx_istore dX9_part_55 (by decide) ?_
  refine xx_clv (lv2 := [(0, .ref b), (1, .int 1), (2, .int 0), (3, .long 0), (5, .int 17), (6, .int 3), (7, .int 3)]) rfl ?_
  refine xx_lload_n dX9_part_57 rfl ?_
  refine xx_bipush (v := 16) dX9_part_58 (by decide) ?_
  refine xx_lshl dX9_part_60 ?_
  refine xx_eql (y := 0) (by decide) ?_
  refine xx_iload dX9_part_61 rfl ?_
  refine xx_aload_n dX9_part_63 rfl ?_
  refine xx_get xx_c9 dX9_part_64 wf_X9_14 (j := 2) (by decide) h1 rfl ?_
  refine xx_iload dX9_part_67 rfl ?_
  refine xx_iald dX9_part_69 hZ_1 (by unfold vp_in; decide) ?_
  refine xx_eqi (y := 1) g1 ?_
  refine xx_icmp_ge (tgt := 89) dX9_part_70 (by decide) (fun j70 => ?_) (fun h => absurd (by decide) h)
  refine xx_iconst (v := 0) dX9_part_89 (by decide) ?_
  refine xx_i2l dX9_part_90 ?_
  refine xx_eql (y := 0) (by decide) ?_
  refine xx_lor dX9_part_91 ?_
  refine xx_eql (y := 0) (by decide) ?_
  refine xx_lstore_n dX9_part_92 (by decide) ?_
  refine xx_clv (lv2 := [(0, .ref b), (1, .int 1), (2, .int 0), (3, .long 0), (5, .int 17), (6, .int 3), (7, .int 3)]) rfl ?_
  refine xx_iinc (v := 2) dX9_part_93 rfl (by decide) (by decide) ?_
  refine xx_clv (lv2 := [(0, .ref b), (1, .int 1), (2, .int 0), (3, .long 0), (5, .int 17), (6, .int 2), (7, .int 3)]) rfl ?_
  refine xx_goto (tgt := 31) dX9_part_96 (by decide) ?_
  refine xx_iload dX9_part_31 rfl ?_
  refine xx_if_lt (tgt := 99) dX9_part_33 (by decide) (fun h => absurd h (by decide)) (fun j33 => ?_)
  refine xx_aload_n dX9_part_36 rfl ?_
  refine xx_get xx_c9 dX9_part_37 wf_X9_84 (j := 0) (by decide) h1 rfl ?_
  refine xx_if_ne (tgt := 99) dX9_part_40 (by decide) (fun h => absurd rfl h) (fun j40 => ?_)
  refine xx_iload_n dX9_part_43 rfl ?_
  refine xx_bipush (v := 20) dX9_part_44 (by decide) ?_
  refine xx_icmp_ge (tgt := 99) dX9_part_46 (by decide) (fun h => absurd h (by decide)) (fun j46 => ?_)
  refine xx_iconst (v := 4) dX9_part_49 (by decide) ?_
  refine xx_iload_n dX9_part_50 rfl ?_
  refine xx_imul dX9_part_51 ?_
  refine xx_eqi (y := 0) (by decide) ?_
  refine xx_iload dX9_part_52 rfl ?_
  refine xx_iadd dX9_part_54 ?_
  refine xx_eqi (y := 2) (by decide) ?_
  refine xx_istore dX9_part_55 (by decide) ?_
  refine xx_clv (lv2 := [(0, .ref b), (1, .int 1), (2, .int 0), (3, .long 0), (5, .int 17), (6, .int 2), (7, .int 2)]) rfl ?_
  refine xx_lload_n dX9_part_57 rfl ?_
  refine xx_bipush (v := 16) dX9_part_58 (by decide) ?_
  refine xx_lshl dX9_part_60 ?_
  refine xx_eql (y := 0) (by decide) ?_
  refine xx_iload dX9_part_61 rfl ?_
  refine xx_aload_n dX9_part_63 rfl ?_
  refine xx_get xx_c9 dX9_part_64 wf_X9_14 (j := 2) (by decide) h1 rfl ?_
  refine xx_iload dX9_part_67 rfl ?_
  refine xx_iald dX9_part_69 hZ_1 (by unfold vp_in; decide) ?_
  refine xx_eqi (y := 1) g1 ?_
  refine xx_icmp_ge (tgt := 89) dX9_part_70 (by decide) (fun j70 => ?_) (fun h => absurd (by decide) h)
  refine xx_iconst (v := 0) dX9_part_89 (by decide) ?_
  refine xx_i2l dX9_part_90 ?_
  refine xx_eql (y := 0) (by decide) ?_
  refine xx_lor dX9_part_91 ?_
  refine xx_eql (y := 0) (by decide) ?_
  refine xx_lstore_n dX9_part_92 (by decide) ?_
  refine xx_clv (lv2 := [(0, .ref b), (1, .int 1), (2, .int 0), (3, .long 0), (5, .int 17), (6, .int 2), (7, .int 2)]) rfl ?_
  refine xx_iinc (v := 1) dX9_part_93 rfl (by decide) (by decide) ?_
  refine xx_clv (lv2 := [(0, .ref b), (1, .int 1), (2, .int 0), (3, .long 0), (5, .int 17), (6, .int 1), (7, .int 2)]) rfl ?_
  refine xx_goto (tgt := 31) dX9_part_96 (by decide) ?_
  refine xx_iload dX9_part_31 rfl ?_
  refine xx_if_lt (tgt := 99) dX9_part_33 (by decide) (fun h => absurd h (by decide)) (fun j33 => ?_)
  refine xx_aload_n dX9_part_36 rfl ?_
  refine xx_get xx_c9 dX9_part_37 wf_X9_84 (j := 0) (by decide) h1 rfl ?_
  refine xx_if_ne (tgt := 99) dX9_part_40 (by decide) (fun h => absurd rfl h) (fun j40 => ?_)
  refine xx_iload_n dX9_part_43 rfl ?_
  refine xx_bipush (v := 20) dX9_part_44 (by decide) ?_
  refine xx_icmp_ge (tgt := 99) dX9_part_46 (by decide) (fun h => absurd h (by decide)) (fun j46 => ?_)
  refine xx_iconst (v := 4) dX9_part_49 (by decide) ?_
  refine xx_iload_n dX9_part_50 rfl ?_
  refine xx_imul dX9_part_51 ?_
  refine xx_eqi (y := 0) (by decide) ?_
  refine xx_iload dX9_part_52 rfl ?_
  refine xx_iadd dX9_part_54 ?_
  refine xx_eqi (y := 1) (by decide) ?_
  refine xx_istore dX9_part_55 (by decide) ?_
  refine xx_clv (lv2 := [(0, .ref b), (1, .int 1), (2, .int 0), (3, .long 0), (5, .int 17), (6, .int 1), (7, .int 1)]) rfl ?_
  refine xx_lload_n dX9_part_57 rfl ?_
  refine xx_bipush (v := 16) dX9_part_58 (by decide) ?_
  refine xx_lshl dX9_part_60 ?_
  refine xx_eql (y := 0) (by decide) ?_
  refine xx_iload dX9_part_61 rfl ?_
  refine xx_aload_n dX9_part_63 rfl ?_
  refine xx_get xx_c9 dX9_part_64 wf_X9_14 (j := 2) (by decide) h1 rfl ?_
  refine xx_iload dX9_part_67 rfl ?_
  refine xx_iald dX9_part_69 hZ_1 (by unfold vp_in; decide) ?_
  refine xx_eqi (y := 1) g1 ?_
  refine xx_icmp_ge (tgt := 89) dX9_part_70 (by decide) (fun j70 => ?_) (fun h => absurd (by decide) h)
  refine xx_iconst (v := 0) dX9_part_89 (by decide) ?_
  refine xx_i2l dX9_part_90 ?_
  refine xx_eql (y := 0) (by decide) ?_
  refine xx_lor dX9_part_91 ?_
  refine xx_eql (y := 0) (by decide) ?_
  refine xx_lstore_n dX9_part_92 (by decide) ?_
  refine xx_clv (lv2 := [(0, .ref b), (1, .int 1), (2, .int 0), (3, .long 0), (5, .int 17), (6, .int 1), (7, .int 1)]) rfl ?_
  refine xx_iinc (v := 0) dX9_part_93 rfl (by decide) (by decide) ?_
  refine xx_clv (lv2 := [(0, .ref b), (1, .int 1), (2, .int 0), (3, .long 0), (5, .int 17), (6, .int 0), (7, .int 1)]) rfl ?_
  refine xx_goto (tgt := 31) dX9_part_96 (by decide) ?_
  refine xx_iload dX9_part_31 rfl ?_
  refine xx_if_lt (tgt := 99) dX9_part_33 (by decide) (fun h => absurd h (by decide)) (fun j33 => ?_)
  refine xx_aload_n dX9_part_36 rfl ?_
  refine xx_get xx_c9 dX9_part_37 wf_X9_84 (j := 0) (by decide) h1 rfl ?_
  refine xx_if_ne (tgt := 99) dX9_part_40 (by decide) (fun h => absurd rfl h) (fun j40 => ?_)
  refine xx_iload_n dX9_part_43 rfl ?_
  refine xx_bipush (v := 20) dX9_part_44 (by decide) ?_
  refine xx_icmp_ge (tgt := 99) dX9_part_46 (by decide) (fun h => absurd h (by decide)) (fun j46 => ?_)
  refine xx_iconst (v := 4) dX9_part_49 (by decide) ?_
  refine xx_iload_n dX9_part_50 rfl ?_
  refine xx_imul dX9_part_51 ?_
  refine xx_eqi (y := 0) (by decide) ?_
  refine xx_iload dX9_part_52 rfl ?_
  refine xx_iadd dX9_part_54 ?_
  refine xx_eqi (y := 0) (by decide) ?_
  refine xx_istore dX9_part_55 (by decide) ?_
  refine xx_clv (lv2 := [(0, .ref b), (1, .int 1), (2, .int 0), (3, .long 0), (5, .int 17), (6, .int 0), (7, .int 0)]) rfl ?_
  refine xx_lload_n dX9_part_57 rfl ?_
  refine xx_bipush (v := 16) dX9_part_58 (by decide) ?_
  refine xx_lshl dX9_part_60 ?_
  refine xx_eql (y := 0) (by decide) ?_
  refine xx_iload dX9_part_61 rfl ?_
  refine xx_aload_n dX9_part_63 rfl ?_
  refine xx_get xx_c9 dX9_part_64 wf_X9_14 (j := 2) (by decide) h1 rfl ?_
  refine xx_iload dX9_part_67 rfl ?_
  refine xx_iald dX9_part_69 hZ_1 (by unfold vp_in; decide) ?_
  refine xx_eqi (y := 1) g1 ?_
  refine xx_icmp_ge (tgt := 89) dX9_part_70 (by decide) (fun h => absurd h (by decide)) (fun j70 => ?_)
  refine xx_aload_n dX9_part_73 rfl ?_
  refine xx_get xx_c9 dX9_part_74 wf_X9_8 (j := 1) (by decide) h1 rfl ?_
  refine xx_bipush (v := 40) dX9_part_77 (by decide) ?_
  refine xx_iload dX9_part_79 rfl ?_
  refine xx_imul dX9_part_81 ?_
  refine xx_eqi (y := 680) (by decide) ?_
  refine xx_iload dX9_part_82 rfl ?_
  refine xx_iadd dX9_part_84 ?_
  refine xx_eqi (y := 680) (by decide) ?_
  refine xx_iald dX9_part_85 hP_1 (by unfold vp_in; decide) ?_
  refine xx_eqi (y := 1) q1 ?_
  refine xx_goto (tgt := 90) dX9_part_86 (by decide) ?_
  refine xx_i2l dX9_part_90 ?_
  refine xx_eql (y := 1) (by decide) ?_
  refine xx_lor dX9_part_91 ?_
  refine xx_eql (y := 1) (by decide) ?_
  refine xx_lstore_n dX9_part_92 (by decide) ?_
  refine xx_clv (lv2 := [(0, .ref b), (1, .int 1), (2, .int 0), (3, .long 1), (5, .int 17), (6, .int 0), (7, .int 0)]) rfl ?_
  refine xx_iinc (v := (-1)) dX9_part_93 rfl (by decide) (by decide) ?_
  refine xx_clv (lv2 := [(0, .ref b), (1, .int 1), (2, .int 0), (3, .long 1), (5, .int 17), (6, .int (-1)), (7, .int 0)]) rfl ?_
  refine xx_goto (tgt := 31) dX9_part_96 (by decide) ?_
  refine xx_iload dX9_part_31 rfl ?_
  refine xx_if_lt (tgt := 99) dX9_part_33 (by decide) (fun j33 => ?_) (fun h => absurd (by decide) h)
  refine xx_lload_n dX9_part_99 rfl ?_
  exact xx_lret dX9_part_100 rfl ⟨rfl, by rw [z1], h1, fun q hq => by rw [o1 q hq]⟩
set_option maxRecDepth 100000 in
theorem c_X9_part2 {G : xx_G} {l : Launch} {A : xx_H} {b a1 a2 : Nat} {u0 u3 u4 u5 u6 u7 u8 u9 u10 u11 u12 u13 u14 u15 u16 u17 u18 u19 u20 u21 u22 u23 u24 u25 u26 u27 u28 : Value} {p : Int32} (hb : A.2 b = xx_o 9 [u0, .ref a1, .ref a2, u3, u4, u5, u6, u7, u8, u9, u10, u11, u12, u13, u14, u15, u16, u17, u18, u19, u20, u21, u22, u23, u24, u25, u26, u27, u28]) {P Z : Nat → Int32} (hP : A.2 a1 = xx_i 69600 P) (hZ : A.2 a2 = xx_i 1740 Z) (m1 : a1 ≠ b) (m2 : a2 ≠ b) (g0 : Z 16 = 0) (g1 : Z 17 = 1) (q1 : P 680 = 1) (hp : ¬ p < 1) (hq : ¬ 20 ≤ p) : xx_X G l mX9_part 0 0 0 0 (lv_args 0 [.ref b, .int 1, .int p]) [] A (xx_r1 (some (.long 0)) b [.int 0, .ref a1, .ref a2, u3, u4, u5, u6, u7, u8, u9, u10, u11, u12, u13, u14, u15, u16, u17, u18, u19, u20, u21, u22, u23, u24, u25, u26, u27, u28] A) := by
  refine xx_clv (lv2 := [(0, .ref b), (1, .int 1), (2, .int p)]) rfl ?_
  refine xx_aload_n dX9_part_0 rfl ?_
  refine xx_iload_n dX9_part_1 rfl ?_
  refine xx_if_ge (tgt := 9) dX9_part_2 (by decide) (fun j2 => ?_) (fun h => absurd (Int32.not_lt.mp (fun q => hp (Int32.lt_trans q (by decide)))) h)
  refine xx_iconst (v := 0) dX9_part_9 (by decide) ?_
  refine xx_put xx_c9 dX9_part_10 wf_X9_84 (j := 0) (by decide) rfl rfl rfl hb (Nat.le_of_ble_eq_true rfl) (xx_gu fun A1 z1 h1 o1 => ?_)
  have h1 : A1.2 b = xx_o 9 [.int 0, .ref a1, .ref a2, u3, u4, u5, u6, u7, u8, u9, u10, u11, u12, u13, u14, u15, u16, u17, u18, u19, u20, u21, u22, u23, u24, u25, u26, u27, u28] := h1
  have hP_1 := (o1 a1 (by omega)).trans hP
  have hZ_1 := (o1 a2 (by omega)).trans hZ
  refine xx_lconst (v := 0) dX9_part_13 (by decide) ?_
  refine xx_lstore_n dX9_part_14 (by decide) ?_
  refine xx_clv (lv2 := [(0, .ref b), (1, .int 1), (2, .int p), (3, .long 0)]) rfl ?_
  refine xx_iload_n dX9_part_15 rfl ?_
  refine xx_if_eq (tgt := 24) dX9_part_16 (by decide) (fun h => absurd h (by decide)) (fun j16 => ?_)
  refine xx_bipush (v := 17) dX9_part_19 (by decide) ?_
  refine xx_goto (tgt := 26) dX9_part_21 (by decide) ?_
  refine xx_istore dX9_part_26 (by decide) ?_
  refine xx_clv (lv2 := [(0, .ref b), (1, .int 1), (2, .int p), (3, .long 0), (5, .int 17)]) rfl ?_
  refine xx_iconst (v := 3) dX9_part_28 (by decide) ?_
  refine xx_istore dX9_part_29 (by decide) ?_
  refine xx_clv (lv2 := [(0, .ref b), (1, .int 1), (2, .int p), (3, .long 0), (5, .int 17), (6, .int 3)]) rfl ?_
  refine xx_iload dX9_part_31 rfl ?_
  refine xx_if_lt (tgt := 99) dX9_part_33 (by decide) (fun h => absurd h (by decide)) (fun j33 => ?_)
  refine xx_aload_n dX9_part_36 rfl ?_
  refine xx_get xx_c9 dX9_part_37 wf_X9_84 (j := 0) (by decide) h1 rfl ?_
  refine xx_if_ne (tgt := 99) dX9_part_40 (by decide) (fun h => absurd rfl h) (fun j40 => ?_)
  refine xx_iload_n dX9_part_43 rfl ?_
  refine xx_bipush (v := 20) dX9_part_44 (by decide) ?_
  refine xx_icmp_ge (tgt := 99) dX9_part_46 (by decide) (fun h => absurd h hq) (fun j46 => ?_)
  refine xx_iconst (v := 4) dX9_part_49 (by decide) ?_
  refine xx_iload_n dX9_part_50 rfl ?_
  refine xx_imul dX9_part_51 ?_
  refine xx_iload dX9_part_52 rfl ?_
  refine xx_iadd dX9_part_54 ?_
  refine xx_istore dX9_part_55 (by decide) ?_
  refine xx_clv (lv2 := [(0, .ref b), (1, .int 1), (2, .int p), (3, .long 0), (5, .int 17), (6, .int 3), (7, .int (((4 * p)) + 3))]) rfl ?_
  refine xx_lload_n dX9_part_57 rfl ?_
  refine xx_bipush (v := 16) dX9_part_58 (by decide) ?_
  refine xx_lshl dX9_part_60 ?_
  refine xx_eql (y := 0) (by decide) ?_
  refine xx_iload dX9_part_61 rfl ?_
  refine xx_aload_n dX9_part_63 rfl ?_
  refine xx_get xx_c9 dX9_part_64 wf_X9_14 (j := 2) (by decide) h1 rfl ?_
  refine xx_iload dX9_part_67 rfl ?_
  refine xx_iald dX9_part_69 hZ_1 (by unfold vp_in; decide) ?_
  refine xx_eqi (y := 1) g1 ?_
  refine xx_icmp_ge (tgt := 89) dX9_part_70 (by decide) (fun j70 => ?_) (fun h => absurd (xx_a1 hp hq).1 h)
  refine xx_iconst (v := 0) dX9_part_89 (by decide) ?_
  refine xx_i2l dX9_part_90 ?_
  refine xx_eql (y := 0) (by decide) ?_
  refine xx_lor dX9_part_91 ?_
  refine xx_eql (y := 0) (by decide) ?_
  refine xx_lstore_n dX9_part_92 (by decide) ?_
  refine xx_clv (lv2 := [(0, .ref b), (1, .int 1), (2, .int p), (3, .long 0), (5, .int 17), (6, .int 3), (7, .int (((4 * p)) + 3))]) rfl ?_
  refine xx_iinc (v := 2) dX9_part_93 rfl (by decide) (by decide) ?_
  refine xx_clv (lv2 := [(0, .ref b), (1, .int 1), (2, .int p), (3, .long 0), (5, .int 17), (6, .int 2), (7, .int (((4 * p)) + 3))]) rfl ?_
  refine xx_goto (tgt := 31) dX9_part_96 (by decide) ?_
  refine xx_iload dX9_part_31 rfl ?_
  refine xx_if_lt (tgt := 99) dX9_part_33 (by decide) (fun h => absurd h (by decide)) (fun j33 => ?_)
  refine xx_aload_n dX9_part_36 rfl ?_
  refine xx_get xx_c9 dX9_part_37 wf_X9_84 (j := 0) (by decide) h1 rfl ?_
  refine xx_if_ne (tgt := 99) dX9_part_40 (by decide) (fun h => absurd rfl h) (fun j40 => ?_)
  refine xx_iload_n dX9_part_43 rfl ?_
  refine xx_bipush (v := 20) dX9_part_44 (by decide) ?_
  refine xx_icmp_ge (tgt := 99) dX9_part_46 (by decide) (fun h => absurd h hq) (fun j46 => ?_)
  refine xx_iconst (v := 4) dX9_part_49 (by decide) ?_
  refine xx_iload_n dX9_part_50 rfl ?_
  refine xx_imul dX9_part_51 ?_
  refine xx_iload dX9_part_52 rfl ?_
  refine xx_iadd dX9_part_54 ?_
  refine xx_istore dX9_part_55 (by decide) ?_
  refine xx_clv (lv2 := [(0, .ref b), (1, .int 1), (2, .int p), (3, .long 0), (5, .int 17), (6, .int 2), (7, .int (((4 * p)) + 2))]) rfl ?_
  refine xx_lload_n dX9_part_57 rfl ?_
  refine xx_bipush (v := 16) dX9_part_58 (by decide) ?_
  refine xx_lshl dX9_part_60 ?_
  refine xx_eql (y := 0) (by decide) ?_
  refine xx_iload dX9_part_61 rfl ?_
  refine xx_aload_n dX9_part_63 rfl ?_
  refine xx_get xx_c9 dX9_part_64 wf_X9_14 (j := 2) (by decide) h1 rfl ?_
  refine xx_iload dX9_part_67 rfl ?_
  refine xx_iald dX9_part_69 hZ_1 (by unfold vp_in; decide) ?_
  refine xx_eqi (y := 1) g1 ?_
  refine xx_icmp_ge (tgt := 89) dX9_part_70 (by decide) (fun j70 => ?_) (fun h => absurd (xx_a1 hp hq).2.1 h)
  refine xx_iconst (v := 0) dX9_part_89 (by decide) ?_
  refine xx_i2l dX9_part_90 ?_
  refine xx_eql (y := 0) (by decide) ?_
  refine xx_lor dX9_part_91 ?_
  refine xx_eql (y := 0) (by decide) ?_
  refine xx_lstore_n dX9_part_92 (by decide) ?_
  refine xx_clv (lv2 := [(0, .ref b), (1, .int 1), (2, .int p), (3, .long 0), (5, .int 17), (6, .int 2), (7, .int (((4 * p)) + 2))]) rfl ?_
  refine xx_iinc (v := 1) dX9_part_93 rfl (by decide) (by decide) ?_
  refine xx_clv (lv2 := [(0, .ref b), (1, .int 1), (2, .int p), (3, .long 0), (5, .int 17), (6, .int 1), (7, .int (((4 * p)) + 2))]) rfl ?_
  refine xx_goto (tgt := 31) dX9_part_96 (by decide) ?_
  refine xx_iload dX9_part_31 rfl ?_
  refine xx_if_lt (tgt := 99) dX9_part_33 (by decide) (fun h => absurd h (by decide)) (fun j33 => ?_)
  refine xx_aload_n dX9_part_36 rfl ?_
  refine xx_get xx_c9 dX9_part_37 wf_X9_84 (j := 0) (by decide) h1 rfl ?_
  refine xx_if_ne (tgt := 99) dX9_part_40 (by decide) (fun h => absurd rfl h) (fun j40 => ?_)
  refine xx_iload_n dX9_part_43 rfl ?_
  refine xx_bipush (v := 20) dX9_part_44 (by decide) ?_
  refine xx_icmp_ge (tgt := 99) dX9_part_46 (by decide) (fun h => absurd h hq) (fun j46 => ?_)
  refine xx_iconst (v := 4) dX9_part_49 (by decide) ?_
  refine xx_iload_n dX9_part_50 rfl ?_
  refine xx_imul dX9_part_51 ?_
  refine xx_iload dX9_part_52 rfl ?_
  refine xx_iadd dX9_part_54 ?_
  refine xx_istore dX9_part_55 (by decide) ?_
  refine xx_clv (lv2 := [(0, .ref b), (1, .int 1), (2, .int p), (3, .long 0), (5, .int 17), (6, .int 1), (7, .int (((4 * p)) + 1))]) rfl ?_
  refine xx_lload_n dX9_part_57 rfl ?_
  refine xx_bipush (v := 16) dX9_part_58 (by decide) ?_
  refine xx_lshl dX9_part_60 ?_
  refine xx_eql (y := 0) (by decide) ?_
  refine xx_iload dX9_part_61 rfl ?_
  refine xx_aload_n dX9_part_63 rfl ?_
  refine xx_get xx_c9 dX9_part_64 wf_X9_14 (j := 2) (by decide) h1 rfl ?_
  refine xx_iload dX9_part_67 rfl ?_
  refine xx_iald dX9_part_69 hZ_1 (by unfold vp_in; decide) ?_
  refine xx_eqi (y := 1) g1 ?_
  refine xx_icmp_ge (tgt := 89) dX9_part_70 (by decide) (fun j70 => ?_) (fun h => absurd (xx_a1 hp hq).2.2.1 h)
  refine xx_iconst (v := 0) dX9_part_89 (by decide) ?_
  refine xx_i2l dX9_part_90 ?_
  refine xx_eql (y := 0) (by decide) ?_
  refine xx_lor dX9_part_91 ?_
  refine xx_eql (y := 0) (by decide) ?_
  refine xx_lstore_n dX9_part_92 (by decide) ?_
  refine xx_clv (lv2 := [(0, .ref b), (1, .int 1), (2, .int p), (3, .long 0), (5, .int 17), (6, .int 1), (7, .int (((4 * p)) + 1))]) rfl ?_
  refine xx_iinc (v := 0) dX9_part_93 rfl (by decide) (by decide) ?_
  refine xx_clv (lv2 := [(0, .ref b), (1, .int 1), (2, .int p), (3, .long 0), (5, .int 17), (6, .int 0), (7, .int (((4 * p)) + 1))]) rfl ?_
  refine xx_goto (tgt := 31) dX9_part_96 (by decide) ?_
  refine xx_iload dX9_part_31 rfl ?_
  refine xx_if_lt (tgt := 99) dX9_part_33 (by decide) (fun h => absurd h (by decide)) (fun j33 => ?_)
  refine xx_aload_n dX9_part_36 rfl ?_
  refine xx_get xx_c9 dX9_part_37 wf_X9_84 (j := 0) (by decide) h1 rfl ?_
  refine xx_if_ne (tgt := 99) dX9_part_40 (by decide) (fun h => absurd rfl h) (fun j40 => ?_)
  refine xx_iload_n dX9_part_43 rfl ?_
  refine xx_bipush (v := 20) dX9_part_44 (by decide) ?_
  refine xx_icmp_ge (tgt := 99) dX9_part_46 (by decide) (fun h => absurd h hq) (fun j46 => ?_)
  refine xx_iconst (v := 4) dX9_part_49 (by decide) ?_
  refine xx_iload_n dX9_part_50 rfl ?_
  refine xx_imul dX9_part_51 ?_
  refine xx_iload dX9_part_52 rfl ?_
  refine xx_iadd dX9_part_54 ?_
  refine xx_istore dX9_part_55 (by decide) ?_
  refine xx_clv (lv2 := [(0, .ref b), (1, .int 1), (2, .int p), (3, .long 0), (5, .int 17), (6, .int 0), (7, .int (((4 * p)) + 0))]) rfl ?_
  refine xx_lload_n dX9_part_57 rfl ?_
  refine xx_bipush (v := 16) dX9_part_58 (by decide) ?_
  refine xx_lshl dX9_part_60 ?_
  refine xx_eql (y := 0) (by decide) ?_
  refine xx_iload dX9_part_61 rfl ?_
  refine xx_aload_n dX9_part_63 rfl ?_
  refine xx_get xx_c9 dX9_part_64 wf_X9_14 (j := 2) (by decide) h1 rfl ?_
  refine xx_iload dX9_part_67 rfl ?_
  refine xx_iald dX9_part_69 hZ_1 (by unfold vp_in; decide) ?_
  refine xx_eqi (y := 1) g1 ?_
  refine xx_icmp_ge (tgt := 89) dX9_part_70 (by decide) (fun j70 => ?_) (fun h => absurd (xx_a1 hp hq).2.2.2 h)
  refine xx_iconst (v := 0) dX9_part_89 (by decide) ?_
  refine xx_i2l dX9_part_90 ?_
  refine xx_eql (y := 0) (by decide) ?_
  refine xx_lor dX9_part_91 ?_
  refine xx_eql (y := 0) (by decide) ?_
  refine xx_lstore_n dX9_part_92 (by decide) ?_
  refine xx_clv (lv2 := [(0, .ref b), (1, .int 1), (2, .int p), (3, .long 0), (5, .int 17), (6, .int 0), (7, .int (((4 * p)) + 0))]) rfl ?_
  refine xx_iinc (v := (-1)) dX9_part_93 rfl (by decide) (by decide) ?_
  refine xx_clv (lv2 := [(0, .ref b), (1, .int 1), (2, .int p), (3, .long 0), (5, .int 17), (6, .int (-1)), (7, .int (((4 * p)) + 0))]) rfl ?_
  refine xx_goto (tgt := 31) dX9_part_96 (by decide) ?_
  refine xx_iload dX9_part_31 rfl ?_
  refine xx_if_lt (tgt := 99) dX9_part_33 (by decide) (fun j33 => ?_) (fun h => absurd (by decide) h)
  refine xx_lload_n dX9_part_99 rfl ?_
  exact xx_lret dX9_part_100 rfl ⟨rfl, by rw [z1], h1, fun q hq => by rw [o1 q hq]⟩
