/-! ===== Minors: sumCofactors, excessSign, holds, read ===== -/
theorem yk_lob : ∀ U, U < 64 → ∀ i, i < 6 → Nat.testBit U i = true → nI (U - 2 ^ i) &&& (((1 : Int32) <<< (nI i &&& 31)) - 1) = nI (U % 2 ^ i) := by decide +kernel
theorem yk_x6l : ∀ U, U < 64 → ∀ i, i < 6 → U % 2 ^ i < 64 := by decide +kernel
theorem yk_wy : ∀ c, c < 7 → (if nI c - nI c / 2 * 2 = 0 then (1 : Int32) else -1) = iz (yd_g c) := by decide +kernel
theorem yk_g_i (c : Nat) : (yd_g c).natAbs < 2147483648 := by rw [yd_g_abs]; decide
set_option maxRecDepth 100000 in
theorem l_X3_sc {G : xx_G} {l : Launch} {A : xx_H} {p py o t S U : Nat} {a : Nat → Nat → Int} {c9 : Nat} {f : Nat → Int32} {Q : Option Value ⊕ String → xx_H → Prop} (H : xx_mno A p py (yk_H a o t)) (ho : o ≤ 6) (ht : t ≤ 6) (hS : S < 2 ^ o) (hU : U < 2 ^ t) (hc : yb_c U = yb_c S) (hb9 : c9 < 6) (tb9 : Nat.testBit U c9 = true) (kC : ∀ (B : xx_H) (f1 : Nat → Int32), (B.1 = A.1) → (B.2 (p + 3) = xx_i 36 f1) → (xx_mh f1 (c9 * 6) (yd_s (yk_x S 6) (fun j => yd_g (j + yk_x U c9) * yk_m a (S - 2 ^ yk_e S j) (U - 2 ^ c9)))) → (∀ q, (q < c9 * 6 ∨ c9 * 6 + 6 ≤ q) → f1 q = f q) → (∀ q, q ≠ p + 3 → B.2 q = A.2 q) → xx_X G l mX3_sumCofactors 2 0 0 112 [(0, .ref p)] [] B Q) :
    ∀ (v i : Nat), i + v = 6 → ∀ (B : xx_H) (f1 : Nat → Int32), (B.1 = A.1) → (B.2 (p + 3) = xx_i 36 f1) → (xx_mh f1 (c9 * 6) (yd_s (yk_x S i) (fun j => yd_g (j + yk_x U c9) * yk_m a (S - 2 ^ yk_e S j) (U - 2 ^ c9)))) → (∀ q, (q < c9 * 6 ∨ c9 * 6 + 6 ≤ q) → f1 q = f q) → (∀ q, q ≠ p + 3 → B.2 q = A.2 q) → xx_X G l mX3_sumCofactors 2 0 0 54 [(0, .ref p), (1, .int (nI S)), (3, .int (nI c9)), (4, .int (nI (U - 2 ^ c9))), (5, .int (iz (yd_g (yk_x S i + yk_x U c9)))), (6, .int (nI i))] [] B Q := by
  have S64 : S < 64 := Nat.lt_of_lt_of_le hS (yk_pw ho)
  have U64 : U < 64 := Nat.lt_of_lt_of_le hU (yk_pw ht)
  obtain ⟨h1, ⟨fr, h2, h3⟩, ⟨g, h4, h5⟩, _, ⟨x8, r8⟩⟩ := id H
  have ud := yk_d6 U U64 c9 hb9 tb9
  have up : 0 < 2 ^ c9 := Nat.two_pow_pos c9
  have uc := yk_dc U U64 c9 hb9 tb9
  intro v
  induction v with
  | zero =>
    intro i h9i B f1 y1 y2 y3 y4 y5
    have h9e : 6 = i := by omega
    subst h9e
    refine xx_clv (lv2 := [(0, .ref p), (1, .int (nI S)), (3, .int (nI c9)), (4, .int (nI (U - 2 ^ c9))), (5, .int (iz (yd_g (yk_x S 6 + yk_x U c9)))), (6, .int 6)]) rfl ?_
    refine xx_iload dX3_sumCofactors_54 rfl ?_
    refine xx_bipush (v := 6) dX3_sumCofactors_56 (by decide) ?_
    refine xx_icmp_ge (tgt := 112) dX3_sumCofactors_58 (by decide) (fun j58 => ?_) (fun h => absurd (by decide) h)
    refine xx_less [0] ?_
    refine xx_clv (lv2 := [(0, .ref p)]) rfl ?_
    exact kC B f1 y1 y2 y3 y4 y5
  | succ v ih =>
    intro i h9i B f1 y1 y2 y3 y4 y5
    have h1b := (y5 p (by omega)).trans h1
    have H2 : xx_mno B p py (fun _ => True) := ⟨h1b, ⟨fr, (y5 _ (by omega)).trans h2, h3⟩, ⟨g, (y5 _ (by omega)).trans h4, trivial⟩, ⟨f1, y2⟩, ⟨x8, (y5 _ (by omega)).trans r8⟩⟩
    refine xx_iload dX3_sumCofactors_54 rfl ?_
    refine xx_bipush (v := 6) dX3_sumCofactors_56 (by decide) ?_
    refine xx_icmp_ge (tgt := 112) dX3_sumCofactors_58 (by decide) (fun h => absurd h (nI_ge (a := i) (b := 6) (by omega) (by omega))) (fun j58 => ?_)
    refine xx_iload_n dX3_sumCofactors_61 rfl ?_
    refine xx_iload dX3_sumCofactors_62 rfl ?_
    refine xx_ishr dX3_sumCofactors_64 ?_
    refine xx_iconst (v := 1) dX3_sumCofactors_65 (by decide) ?_
    refine xx_iand dX3_sumCofactors_66 ?_
    refine xx_eqi (y := if Nat.testBit S i then 1 else 0) (yb_sh S64 (by omega)) ?_
    refine xx_if_eq (tgt := 106) dX3_sumCofactors_67 (by decide) (fun j67 => ?_) (fun j67 => ?_)
    · have tb : Nat.testBit S i = false := by cases hz : Nat.testBit S i; rfl; exact absurd (j67.symm.trans (if_pos hz)) (by decide)
      have xf := yk_xf S S64 i (by omega) tb
      rw [← xf] at y3 ⊢
      refine xx_iinc (v := nI (i + 1)) dX3_sumCofactors_106 rfl (nI_1 i) (by decide) ?_
      refine xx_clv (lv2 := [(0, .ref p), (1, .int (nI S)), (3, .int (nI c9)), (4, .int (nI (U - 2 ^ c9))), (5, .int (iz (yd_g (yk_x S (i + 1) + yk_x U c9)))), (6, .int (nI (i + 1)))]) rfl ?_
      refine xx_goto (tgt := 54) dX3_sumCofactors_109 (by decide) ?_
      refine xx_less [0, 1, 3, 4, 5, 6] ?_
      refine xx_clv (lv2 := [(0, .ref p), (1, .int (nI S)), (3, .int (nI c9)), (4, .int (nI (U - 2 ^ c9))), (5, .int (iz (yd_g (yk_x S (i + 1) + yk_x U c9)))), (6, .int (nI (i + 1)))]) rfl ?_
      refine ih (i + 1) (by omega) B f1 y1 y2 y3 y4 y5
    · have tb : Nat.testBit S i = true := Classical.byContradiction (fun z => j67 (if_neg z))
      have ex := yk_ex S S64 i (by omega) tb
      have sd := yk_d6 S S64 i (by omega) tb
      have ip : 0 < 2 ^ i := Nat.two_pow_pos i
      have sc := yk_dc S S64 i (by omega) tb
      have pl2 := yk_pl (S := S - 2 ^ i) (T := U - 2 ^ c9) (by omega) (by omega) (by omega)
      have mi := h5 (S - 2 ^ i) (by omega) (U - 2 ^ c9) (by omega) (by omega)
      refine xx_aload_n dX3_sumCofactors_70 rfl ?_
      refine xx_get xx_c3 dX3_sumCofactors_71 wf_X3_18 (j := 3) (by decide) h1b rfl ?_
      refine xx_iload_n dX3_sumCofactors_74 rfl ?_
      refine xx_bipush (v := 6) dX3_sumCofactors_75 (by decide) ?_
      refine xx_imul dX3_sumCofactors_77 ?_
      refine xx_eqi (y := nI (c9 * 6)) (pk_mul c9 6) ?_
      refine xx_aload_n dX3_sumCofactors_78 rfl ?_
      refine xx_get xx_c3 dX3_sumCofactors_79 wf_X3_15 (j := 2) (by decide) h1b rfl ?_
      refine xx_aload_n dX3_sumCofactors_82 rfl ?_
      refine xx_iload_n dX3_sumCofactors_83 rfl ?_
      refine xx_iconst (v := 1) dX3_sumCofactors_84 (by decide) ?_
      refine xx_iload dX3_sumCofactors_85 rfl ?_
      refine xx_ishl dX3_sumCofactors_87 ?_
      refine xx_iconst (v := (-1)) dX3_sumCofactors_88 (by decide) ?_
      refine xx_ixor dX3_sumCofactors_89 ?_
      refine xx_iand dX3_sumCofactors_90 ?_
      refine xx_eqi (y := nI (S - 2 ^ i)) (yk_dn S S64 i (by omega) tb) ?_
      refine xx_iload dX3_sumCofactors_91 rfl ?_
      refine xx_callV (N := mX3_place) (vs := [.int (nI (S - 2 ^ i)), .int (nI (U - 2 ^ c9))]) (b := p) (rest := [.ref (p + 2), .int (nI (c9 * 6)), .ref (p + 3)]) (d2 := 1) (c2 := 0) (s2 := 0) (c3 := 0) (s3 := 0) dX3_sumCofactors_93 wm_X3_47 wi_X3_place wv_X3_place (k := 3) rfl (by decide) h1b nX3_place ⟨pX3_place, Nat.le_of_ble_eq_true rfl, by decide, Nat.le_of_ble_eq_true rfl, by decide, by decide⟩ (c_X3_place (S := S - 2 ^ i) (U := U - 2 ^ c9) H2 (by omega) (by omega)) (fun v9 B9 hC => ?_) (fun E9 B9 hC => absurd hC.1 (by simp))
      obtain ⟨hv9, e9⟩ := hC
      cases hv9
      refine xx_cst (st2 := [.int (nI (yk_p (S - 2 ^ i) (U - 2 ^ c9))), .ref (p + 2), .int (nI (c9 * 6)), .ref (p + 3)]) rfl ?_
      rw [e9]
      refine xx_iload dX3_sumCofactors_96 rfl ?_
      refine xx_callS (N := mX3_addTimes) (vs := [.ref (p + 3), .int (nI (c9 * 6)), .ref (p + 2), .int (nI (yk_p (S - 2 ^ i) (U - 2 ^ c9))), .int (iz (yd_g (yk_x S i + yk_x U c9)))]) (rest := []) (d2 := 0) (c2 := 0) (s2 := 0) (c3 := 0) (s3 := 0) dX3_sumCofactors_98 wm_X3_89 ws_X3_addTimes wz_X3 (by decide) nX3_addTimes ⟨pX3_addTimes, Nat.le_of_ble_eq_true rfl, by decide, Nat.le_of_ble_eq_true rfl, by decide, by decide⟩ (c_X3_addTimes (s9 := c9 * 6) (t9 := yk_p (S - 2 ^ i) (U - 2 ^ c9)) (t := yd_g (yk_x S i + yk_x U c9)) y2 ((y5 (p + 2) (by omega)).trans h4) (by omega) pl2 (by decide) (by decide) (Or.inl (by omega)) y3 mi (yk_g_i _)) (fun v9 Eq1 hC => ?_) (fun E9 B9 hC => absurd hC.1 (by simp))
      obtain ⟨hv9, z1q, ⟨f2, k1, k2, k3⟩, k4⟩ := hC
      cases hv9
      refine xx_cst (st2 := []) rfl ?_
      refine xx_iload dX3_sumCofactors_101 rfl ?_
      refine xx_ineg dX3_sumCofactors_103 ?_
      refine xx_eqi (y := iz (yd_g (yk_x S (i + 1) + yk_x U c9))) (by rw [yk_xt S S64 i (by omega) tb, Nat.add_right_comm, yd_g_s]; exact (Int32.ofInt_neg _).symm) ?_
      refine xx_istore dX3_sumCofactors_104 (by decide) ?_
      refine xx_clv (lv2 := [(0, .ref p), (1, .int (nI S)), (3, .int (nI c9)), (4, .int (nI (U - 2 ^ c9))), (5, .int (iz (yd_g (yk_x S (i + 1) + yk_x U c9)))), (6, .int (nI i))]) rfl ?_
      refine xx_iinc (v := nI (i + 1)) dX3_sumCofactors_106 rfl (nI_1 i) (by decide) ?_
      refine xx_clv (lv2 := [(0, .ref p), (1, .int (nI S)), (3, .int (nI c9)), (4, .int (nI (U - 2 ^ c9))), (5, .int (iz (yd_g (yk_x S (i + 1) + yk_x U c9)))), (6, .int (nI (i + 1)))]) rfl ?_
      refine xx_goto (tgt := 54) dX3_sumCofactors_109 (by decide) ?_
      refine xx_less [0, 1, 3, 4, 5, 6] ?_
      refine xx_clv (lv2 := [(0, .ref p), (1, .int (nI S)), (3, .int (nI c9)), (4, .int (nI (U - 2 ^ c9))), (5, .int (iz (yd_g (yk_x S (i + 1) + yk_x U c9)))), (6, .int (nI (i + 1)))]) rfl ?_
      refine ih (i + 1) (by omega) Eq1 f2 (by omega) k1 ?_ (fun q hq => (k3 q hq).trans (y4 q hq)) (fun q hq => (k4 q hq).trans (y5 q hq))
      rw [yk_xt S S64 i (by omega) tb]
      show xx_mh f2 (c9 * 6) (yd_s (yk_x S i) (fun j => yd_g (j + yk_x U c9) * yk_m a (S - 2 ^ yk_e S j) (U - 2 ^ c9)) + yd_g (yk_x S i + yk_x U c9) * yk_m a (S - 2 ^ yk_e S (yk_x S i)) (U - 2 ^ c9))
      rw [ex]
      exact k2
set_option maxRecDepth 100000 in
theorem c_X3_sumCofactors {G : xx_G} {l : Launch} {A : xx_H} {p py o t S U : Nat} {a : Nat → Nat → Int} {c9 : Nat} {f : Nat → Int32} (H : xx_mno A p py (yk_H a o t)) (ho : o ≤ 6) (ht : t ≤ 6) (hS : S < 2 ^ o) (hU : U < 2 ^ t) (hc : yb_c U = yb_c S) (hb9 : c9 < 6) (tb9 : Nat.testBit U c9 = true) (hf : A.2 (p + 3) = xx_i 36 f) : xx_X G l mX3_sumCofactors 2 0 0 0 (lv_args 0 [.ref p, .int (nI S), .int (nI U), .int (nI c9)]) [] A (fun z B => z = .inl none ∧ B.1 = A.1 ∧ (∃ f2, B.2 (p + 3) = xx_i 36 f2 ∧ xx_mh f2 (c9 * 6) (yk_n a S U (yk_x U c9)) ∧ ∀ q, (q < c9 * 6 ∨ c9 * 6 + 6 ≤ q) → f2 q = f q) ∧ ∀ q, q ≠ p + 3 → B.2 q = A.2 q) := by
  have S64 : S < 64 := Nat.lt_of_lt_of_le hS (yk_pw ho)
  have U64 : U < 64 := Nat.lt_of_lt_of_le hU (yk_pw ht)
  obtain ⟨h1, ⟨fr, h2, h3⟩, ⟨g, h4, h5⟩, _, ⟨x8, r8⟩⟩ := id H
  have xl := yk_xl U U64 c9 hb9 tb9
  have c6 := yb_c6 U U64
  have ex := yk_ex U U64 c9 hb9 tb9
  refine xx_clv (lv2 := [(0, .ref p), (1, .int (nI S)), (2, .int (nI U)), (3, .int (nI c9))]) rfl ?_
  refine xx_iload_n dX3_sumCofactors_0 rfl ?_
  refine xx_iconst (v := 1) dX3_sumCofactors_1 (by decide) ?_
  refine xx_iload_n dX3_sumCofactors_2 rfl ?_
  refine xx_ishl dX3_sumCofactors_3 ?_
  refine xx_iconst (v := (-1)) dX3_sumCofactors_4 (by decide) ?_
  refine xx_ixor dX3_sumCofactors_5 ?_
  refine xx_iand dX3_sumCofactors_6 ?_
  refine xx_eqi (y := nI (U - 2 ^ c9)) (yk_dn U U64 c9 (by omega) tb9) ?_
  refine xx_istore dX3_sumCofactors_7 (by decide) ?_
  refine xx_clv (lv2 := [(0, .ref p), (1, .int (nI S)), (2, .int (nI U)), (3, .int (nI c9)), (4, .int (nI (U - 2 ^ c9)))]) rfl ?_
  refine xx_iload dX3_sumCofactors_9 rfl ?_
  refine xx_iconst (v := 1) dX3_sumCofactors_11 (by decide) ?_
  refine xx_iload_n dX3_sumCofactors_12 rfl ?_
  refine xx_ishl dX3_sumCofactors_13 ?_
  refine xx_iconst (v := 1) dX3_sumCofactors_14 (by decide) ?_
  refine xx_isub dX3_sumCofactors_15 ?_
  refine xx_iand dX3_sumCofactors_16 ?_
  refine xx_eqi (y := nI (U % 2 ^ c9)) (yk_lob U U64 c9 hb9 tb9) ?_
  refine xx_callS (N := mJ6_bitCount) (vs := [.int (nI (U % 2 ^ c9))]) (rest := []) (d2 := 0) (c2 := 0) (s2 := 0) (c3 := 0) (s3 := 0) dX3_sumCofactors_17 wm_X3_28 ws_J6_bitCount wz_J6 (by decide) nJ6_bitCount ⟨pJ6_bitCount, Nat.le_of_ble_eq_true rfl, by decide, Nat.le_of_ble_eq_true rfl, by decide, by decide⟩ (c_J6_bitCount (yk_x6l U U64 c9 hb9)) (fun v9 B9 hC => ?_) (fun E9 B9 hC => absurd hC.1 (by simp))
  obtain ⟨hv9, e9⟩ := hC
  cases hv9
  refine xx_cst (st2 := [.int (nI (yk_x U c9))]) rfl ?_
  rw [e9]
  refine xx_iconst (v := 2) dX3_sumCofactors_20 (by decide) ?_
  refine xx_irem dX3_sumCofactors_21 (by decide) ?_
  refine xx_if_ne (tgt := 29) dX3_sumCofactors_22 (by decide) (fun j22 => ?_) (fun j22 => ?_)
  · refine xx_iconst (v := (-1)) dX3_sumCofactors_29 (by decide) ?_
    refine xx_cst (st2 := [.int (iz (yd_g (yk_x S 0 + yk_x U c9)))]) (by rw [yk_x0, Nat.zero_add, ← yk_wy _ (by omega), if_neg j22]) ?_
    refine xx_istore dX3_sumCofactors_30 (by decide) ?_
    refine xx_clv (lv2 := [(0, .ref p), (1, .int (nI S)), (2, .int (nI U)), (3, .int (nI c9)), (4, .int (nI (U - 2 ^ c9))), (5, .int (iz (yd_g (yk_x S 0 + yk_x U c9))))]) rfl ?_
    refine xx_aload_n dX3_sumCofactors_32 rfl ?_
    refine xx_get xx_c3 dX3_sumCofactors_33 wf_X3_18 (j := 3) (by decide) h1 rfl ?_
    refine xx_iload_n dX3_sumCofactors_36 rfl ?_
    refine xx_bipush (v := 6) dX3_sumCofactors_37 (by decide) ?_
    refine xx_imul dX3_sumCofactors_39 ?_
    refine xx_eqi (y := nI (c9 * 6)) (pk_mul c9 6) ?_
    refine xx_iload_n dX3_sumCofactors_40 rfl ?_
    refine xx_bipush (v := 6) dX3_sumCofactors_41 (by decide) ?_
    refine xx_imul dX3_sumCofactors_43 ?_
    refine xx_eqi (y := nI (c9 * 6)) (pk_mul c9 6) ?_
    refine xx_bipush (v := 6) dX3_sumCofactors_44 (by decide) ?_
    refine xx_iadd dX3_sumCofactors_46 ?_
    refine xx_eqi (y := nI (c9 * 6 + 6)) (nI_add (c9 * 6) 6) ?_
    refine xx_iconst (v := 0) dX3_sumCofactors_47 (by decide) ?_
    refine xx_callS (N := mJ7_fillr) (vs := [.ref (p + 3), .int (nI (c9 * 6)), .int (nI (c9 * 6 + 6)), .int 0]) (rest := []) (d2 := 1) (c2 := 0) (s2 := 0) (c3 := 0) (s3 := 0) dX3_sumCofactors_48 wm_X3_81 ws_J7_fillr wz_J7 (by decide) nJ7_fillr ⟨pJ7_fillr, Nat.le_of_ble_eq_true rfl, by decide, Nat.le_of_ble_eq_true rfl, by decide, by decide⟩ (c_J7_fillr (p := c9 * 6) (t := c9 * 6 + 6) (n := 36) (by decide) (by omega) (by omega) hf) (fun v9 Eq1 hC => ?_) (fun E9 B9 hC => absurd hC.1 (by simp))
    obtain ⟨hv9, z1q, ⟨f1, k1, k2, k3⟩, k4⟩ := hC
    cases hv9
    refine xx_cst (st2 := []) rfl ?_
    refine xx_iconst (v := 0) dX3_sumCofactors_51 (by decide) ?_
    refine xx_istore dX3_sumCofactors_52 (by decide) ?_
    refine xx_clv (lv2 := [(0, .ref p), (1, .int (nI S)), (2, .int (nI U)), (3, .int (nI c9)), (4, .int (nI (U - 2 ^ c9))), (5, .int (iz (yd_g (yk_x S 0 + yk_x U c9)))), (6, .int 0)]) rfl ?_
    refine xx_less [0, 1, 3, 4, 5, 6] ?_
    refine xx_clv (lv2 := [(0, .ref p), (1, .int (nI S)), (3, .int (nI c9)), (4, .int (nI (U - 2 ^ c9))), (5, .int (iz (yd_g (yk_x S 0 + yk_x U c9)))), (6, .int (nI 0))]) rfl ?_
    have H2 : xx_mno Eq1 p py (yk_H a o t) := ⟨(k4 p (by omega)).trans h1, ⟨fr, (k4 _ (by omega)).trans h2, h3⟩, ⟨g, (k4 _ (by omega)).trans h4, h5⟩, ⟨f1, k1⟩, ⟨x8, (k4 _ (by omega)).trans r8⟩⟩
    refine l_X3_sc (A := Eq1) (f := f1) H2 ho ht hS hU hc hb9 tb9 (fun B f2 y1 y2 y3 y4 y5 => ?_) 6 0 (by omega) Eq1 f1 rfl k1 (by rw [yk_x0]; exact xx_mh0 (fun i hi => k2 _ (by omega) (by omega))) (fun q _ => rfl) (fun q _ => rfl)
    refine xx_vret dX3_sumCofactors_112 rfl ⟨rfl, by omega, ⟨f2, y2, ?_, fun q hq => (y4 q hq).trans (k3 q (by omega))⟩, fun q hq => (y5 q hq).trans (k4 q hq)⟩
    rw [yk_x6 S S64] at y3
    rw [yk_ns S64 U64 hc xl, ex]
    exact y3
  · refine xx_iconst (v := 1) dX3_sumCofactors_25 (by decide) ?_
    refine xx_goto (tgt := 30) dX3_sumCofactors_26 (by decide) ?_
    refine xx_cst (st2 := [.int (iz (yd_g (yk_x S 0 + yk_x U c9)))]) (by rw [yk_x0, Nat.zero_add, ← yk_wy _ (by omega), if_pos j22]) ?_
    refine xx_istore dX3_sumCofactors_30 (by decide) ?_
    refine xx_clv (lv2 := [(0, .ref p), (1, .int (nI S)), (2, .int (nI U)), (3, .int (nI c9)), (4, .int (nI (U - 2 ^ c9))), (5, .int (iz (yd_g (yk_x S 0 + yk_x U c9))))]) rfl ?_
    refine xx_aload_n dX3_sumCofactors_32 rfl ?_
    refine xx_get xx_c3 dX3_sumCofactors_33 wf_X3_18 (j := 3) (by decide) h1 rfl ?_
    refine xx_iload_n dX3_sumCofactors_36 rfl ?_
    refine xx_bipush (v := 6) dX3_sumCofactors_37 (by decide) ?_
    refine xx_imul dX3_sumCofactors_39 ?_
    refine xx_eqi (y := nI (c9 * 6)) (pk_mul c9 6) ?_
    refine xx_iload_n dX3_sumCofactors_40 rfl ?_
    refine xx_bipush (v := 6) dX3_sumCofactors_41 (by decide) ?_
    refine xx_imul dX3_sumCofactors_43 ?_
    refine xx_eqi (y := nI (c9 * 6)) (pk_mul c9 6) ?_
    refine xx_bipush (v := 6) dX3_sumCofactors_44 (by decide) ?_
    refine xx_iadd dX3_sumCofactors_46 ?_
    refine xx_eqi (y := nI (c9 * 6 + 6)) (nI_add (c9 * 6) 6) ?_
    refine xx_iconst (v := 0) dX3_sumCofactors_47 (by decide) ?_
    refine xx_callS (N := mJ7_fillr) (vs := [.ref (p + 3), .int (nI (c9 * 6)), .int (nI (c9 * 6 + 6)), .int 0]) (rest := []) (d2 := 1) (c2 := 0) (s2 := 0) (c3 := 0) (s3 := 0) dX3_sumCofactors_48 wm_X3_81 ws_J7_fillr wz_J7 (by decide) nJ7_fillr ⟨pJ7_fillr, Nat.le_of_ble_eq_true rfl, by decide, Nat.le_of_ble_eq_true rfl, by decide, by decide⟩ (c_J7_fillr (p := c9 * 6) (t := c9 * 6 + 6) (n := 36) (by decide) (by omega) (by omega) hf) (fun v9 Eq1 hC => ?_) (fun E9 B9 hC => absurd hC.1 (by simp))
    obtain ⟨hv9, z1q, ⟨f1, k1, k2, k3⟩, k4⟩ := hC
    cases hv9
    refine xx_cst (st2 := []) rfl ?_
    refine xx_iconst (v := 0) dX3_sumCofactors_51 (by decide) ?_
    refine xx_istore dX3_sumCofactors_52 (by decide) ?_
    refine xx_clv (lv2 := [(0, .ref p), (1, .int (nI S)), (2, .int (nI U)), (3, .int (nI c9)), (4, .int (nI (U - 2 ^ c9))), (5, .int (iz (yd_g (yk_x S 0 + yk_x U c9)))), (6, .int 0)]) rfl ?_
    refine xx_less [0, 1, 3, 4, 5, 6] ?_
    refine xx_clv (lv2 := [(0, .ref p), (1, .int (nI S)), (3, .int (nI c9)), (4, .int (nI (U - 2 ^ c9))), (5, .int (iz (yd_g (yk_x S 0 + yk_x U c9)))), (6, .int (nI 0))]) rfl ?_
    have H2 : xx_mno Eq1 p py (yk_H a o t) := ⟨(k4 p (by omega)).trans h1, ⟨fr, (k4 _ (by omega)).trans h2, h3⟩, ⟨g, (k4 _ (by omega)).trans h4, h5⟩, ⟨f1, k1⟩, ⟨x8, (k4 _ (by omega)).trans r8⟩⟩
    refine l_X3_sc (A := Eq1) (f := f1) H2 ho ht hS hU hc hb9 tb9 (fun B f2 y1 y2 y3 y4 y5 => ?_) 6 0 (by omega) Eq1 f1 rfl k1 (by rw [yk_x0]; exact xx_mh0 (fun i hi => k2 _ (by omega) (by omega))) (fun q _ => rfl) (fun q _ => rfl)
    refine xx_vret dX3_sumCofactors_112 rfl ⟨rfl, by omega, ⟨f2, y2, ?_, fun q hq => (y4 q hq).trans (k3 q (by omega))⟩, fun q hq => (y5 q hq).trans (k4 q hq)⟩
    rw [yk_x6 S S64] at y3
    rw [yk_ns S64 U64 hc xl, ex]
    exact y3
set_option maxRecDepth 100000 in
theorem l_X3_xs {G : xx_G} {l : Launch} {A : xx_H} {p py o t S U : Nat} {a : Nat → Nat → Int} {mu row : Nat} {le : Int} {w : Nat → Nat → Int} {f : Nat → Int32} {Q : Option Value ⊕ String → xx_H → Prop} (H : xx_mno A p py (yk_H a o t)) (ho : o ≤ 6) (ht : t ≤ 6) (hS : S < 2 ^ o) (hU : U < 2 ^ t) (hc : yb_c U = yb_c S) (P : xx_po A py o t mu le w) (ea : ∀ i, i < o → ∀ j, j < t → a i j = 1 + w i j - le) (dj : py + 4 ≤ p ∨ p + 5 ≤ py) (hrow : row < o) (hf : A.2 (p + 3) = xx_i 36 f) (hn : ∀ i, i < 6 → Nat.testBit U i = true → xx_mh f (i * 6) (yk_n a S U (yk_x U i))) (kC : ∀ (B : xx_H) (f1 : Nat → Int32), (B.1 = A.1) → (B.2 (p + 4) = xx_i 6 f1) → (xx_mh f1 0 (-yk_m a S U + yd_s (yk_x U 6) (fun c => yk_n a S U c * a row (yk_e U c)))) → (∀ q, q ≠ p + 4 → B.2 q = A.2 q) → xx_X G l mX3_excessSign 2 0 0 79 [(0, .ref p)] [] B Q) :
    ∀ (v i : Nat), i + v = 6 → ∀ (B : xx_H) (f1 : Nat → Int32), (B.1 = A.1) → (B.2 (p + 4) = xx_i 6 f1) → (xx_mh f1 0 (-yk_m a S U + yd_s (yk_x U i) (fun c => yk_n a S U c * a row (yk_e U c)))) → (∀ q, q ≠ p + 4 → B.2 q = A.2 q) → xx_X G l mX3_excessSign 2 0 0 30 [(0, .ref p), (1, .int (nI row)), (3, .int (nI U)), (4, .int (nI i))] [] B Q := by
  have S64 : S < 64 := Nat.lt_of_lt_of_le hS (yk_pw ho)
  have U64 : U < 64 := Nat.lt_of_lt_of_le hU (yk_pw ht)
  obtain ⟨h1, ⟨fr, h2, h3⟩, ⟨g, h4, h5⟩, _, ⟨x8, r8⟩⟩ := id H
  obtain ⟨pb, o6, t6, _, wb, lb⟩ := id P
  intro v
  induction v with
  | zero =>
    intro i h9i B f1 y1 y2 y3 y5
    have h9e : 6 = i := by omega
    subst h9e
    refine xx_clv (lv2 := [(0, .ref p), (1, .int (nI row)), (3, .int (nI U)), (4, .int 6)]) rfl ?_
    refine xx_iload dX3_excessSign_30 rfl ?_
    refine xx_bipush (v := 6) dX3_excessSign_32 (by decide) ?_
    refine xx_icmp_ge (tgt := 79) dX3_excessSign_34 (by decide) (fun j34 => ?_) (fun h => absurd (by decide) h)
    refine xx_less [0] ?_
    refine xx_clv (lv2 := [(0, .ref p)]) rfl ?_
    exact kC B f1 y1 y2 y3 y5
  | succ v ih =>
    intro i h9i B f1 y1 y2 y3 y5
    have h1b := (y5 p (by omega)).trans h1
    have P2 := P.to (y5 py (by omega)) (y5 (py + 3) (by omega))
    refine xx_iload dX3_excessSign_30 rfl ?_
    refine xx_bipush (v := 6) dX3_excessSign_32 (by decide) ?_
    refine xx_icmp_ge (tgt := 79) dX3_excessSign_34 (by decide) (fun h => absurd h (nI_ge (a := i) (b := 6) (by omega) (by omega))) (fun j34 => ?_)
    refine xx_iload_n dX3_excessSign_37 rfl ?_
    refine xx_iload dX3_excessSign_38 rfl ?_
    refine xx_ishr dX3_excessSign_40 ?_
    refine xx_iconst (v := 1) dX3_excessSign_41 (by decide) ?_
    refine xx_iand dX3_excessSign_42 ?_
    refine xx_eqi (y := if Nat.testBit U i then 1 else 0) (yb_sh U64 (by omega)) ?_
    refine xx_if_eq (tgt := 73) dX3_excessSign_43 (by decide) (fun j43 => ?_) (fun j43 => ?_)
    · have tb : Nat.testBit U i = false := by cases hz : Nat.testBit U i; rfl; exact absurd (j43.symm.trans (if_pos hz)) (by decide)
      have xf := yk_xf U U64 i (by omega) tb
      rw [← xf] at y3
      refine xx_iinc (v := nI (i + 1)) dX3_excessSign_73 rfl (nI_1 i) (by decide) ?_
      refine xx_clv (lv2 := [(0, .ref p), (1, .int (nI row)), (3, .int (nI U)), (4, .int (nI (i + 1)))]) rfl ?_
      refine xx_goto (tgt := 30) dX3_excessSign_76 (by decide) ?_
      refine xx_less [0, 1, 3, 4] ?_
      refine xx_clv (lv2 := [(0, .ref p), (1, .int (nI row)), (3, .int (nI U)), (4, .int (nI (i + 1)))]) rfl ?_
      refine ih (i + 1) (by omega) B f1 y1 y2 y3 y5
    · have tb : Nat.testBit U i = true := Classical.byContradiction (fun z => j43 (if_neg z))
      have ex := yk_ex U U64 i (by omega) tb
      have xl := yk_xl U U64 i (by omega) tb
      have it : i < t := by have := yk_le U U64 t t6 hU (yk_x U i) xl; rw [ex] at this; exact this
      have wb9 := wb row hrow i it
      refine xx_aload_n dX3_excessSign_46 rfl ?_
      refine xx_get xx_c3 dX3_excessSign_47 wf_X3_21 (j := 4) (by decide) h1b rfl ?_
      refine xx_iconst (v := 0) dX3_excessSign_50 (by decide) ?_
      refine xx_aload_n dX3_excessSign_51 rfl ?_
      refine xx_get xx_c3 dX3_excessSign_52 wf_X3_18 (j := 3) (by decide) h1b rfl ?_
      refine xx_iload dX3_excessSign_55 rfl ?_
      refine xx_bipush (v := 6) dX3_excessSign_57 (by decide) ?_
      refine xx_imul dX3_excessSign_59 ?_
      refine xx_eqi (y := nI (i * 6)) (pk_mul i 6) ?_
      refine xx_aload_n dX3_excessSign_60 rfl ?_
      refine xx_get xx_c3 dX3_excessSign_61 wf_X3_24 (j := 0) (by decide) h1b rfl ?_
      refine xx_iload_n dX3_excessSign_64 rfl ?_
      refine xx_iload dX3_excessSign_65 rfl ?_
      refine xx_callV (N := mX4_lifted) (vs := [.int (nI row), .int (nI i)]) (b := py) (rest := [.int (nI (i * 6)), .ref (p + 3), .int 0, .ref (p + 4)]) (d2 := 0) (c2 := 0) (s2 := 0) (c3 := 0) (s3 := 0) dX3_excessSign_67 wm_X3_86 wi_X4_lifted wv_X4_lifted (k := 4) rfl (by decide) P2.1 nX4_lifted ⟨pX4_lifted, Nat.le_of_ble_eq_true rfl, by decide, Nat.le_of_ble_eq_true rfl, by decide, by decide⟩ (c_X4_lifted P2 hrow it) (fun v9 B9 hC => ?_) (fun E9 B9 hC => absurd hC.1 (by simp))
      obtain ⟨hv9, e9⟩ := hC
      cases hv9
      refine xx_cst (st2 := [.int (iz (1 + w row i - le)), .int (nI (i * 6)), .ref (p + 3), .int 0, .ref (p + 4)]) rfl ?_
      rw [e9]
      refine xx_callS (N := mX3_addTimes) (vs := [.ref (p + 4), .int 0, .ref (p + 3), .int (nI (i * 6)), .int (iz (1 + w row i - le))]) (rest := []) (d2 := 0) (c2 := 0) (s2 := 0) (c3 := 0) (s3 := 0) dX3_excessSign_70 wm_X3_89 ws_X3_addTimes wz_X3 (by decide) nX3_addTimes ⟨pX3_addTimes, Nat.le_of_ble_eq_true rfl, by decide, Nat.le_of_ble_eq_true rfl, by decide, by decide⟩ (c_X3_addTimes (s9 := 0) (t9 := i * 6) (t := 1 + w row i - le) y2 ((y5 (p + 3) (by omega)).trans hf) (by omega) (by omega) (by decide) (by decide) (Or.inl (by omega)) y3 (hn i (by omega) tb) (by omega)) (fun v9 Eq1 hC => ?_) (fun E9 B9 hC => absurd hC.1 (by simp))
      obtain ⟨hv9, z1q, ⟨f2, k1, k2, k3⟩, k4⟩ := hC
      cases hv9
      refine xx_cst (st2 := []) rfl ?_
      refine xx_iinc (v := nI (i + 1)) dX3_excessSign_73 rfl (nI_1 i) (by decide) ?_
      refine xx_clv (lv2 := [(0, .ref p), (1, .int (nI row)), (3, .int (nI U)), (4, .int (nI (i + 1)))]) rfl ?_
      refine xx_goto (tgt := 30) dX3_excessSign_76 (by decide) ?_
      refine xx_less [0, 1, 3, 4] ?_
      refine xx_clv (lv2 := [(0, .ref p), (1, .int (nI row)), (3, .int (nI U)), (4, .int (nI (i + 1)))]) rfl ?_
      refine ih (i + 1) (by omega) Eq1 f2 (by omega) k1 ?_ (fun q hq => (k4 q hq).trans (y5 q hq))
      rw [yk_xt U U64 i (by omega) tb]
      show xx_mh f2 0 (-yk_m a S U + (yd_s (yk_x U i) (fun c => yk_n a S U c * a row (yk_e U c)) + yk_n a S U (yk_x U i) * a row (yk_e U (yk_x U i))))
      rw [ex, ea row hrow i it, ← Int.add_assoc, Int.mul_comm (yk_n a S U (yk_x U i))]
      exact k2
set_option maxRecDepth 100000 in
theorem c_X3_excessSign {G : xx_G} {l : Launch} {A : xx_H} {p py o t S U : Nat} {a : Nat → Nat → Int} {mu row : Nat} {le : Int} {w : Nat → Nat → Int} {f : Nat → Int32} (H : xx_mno A p py (yk_H a o t)) (ho : o ≤ 6) (ht : t ≤ 6) (hS : S < 2 ^ o) (hU : U < 2 ^ t) (hc : yb_c U = yb_c S) (P : xx_po A py o t mu le w) (ea : ∀ i, i < o → ∀ j, j < t → a i j = 1 + w i j - le) (dj : py + 4 ≤ p ∨ p + 5 ≤ py) (hrow : row < o) (hf : A.2 (p + 3) = xx_i 36 f) (hn : ∀ i, i < 6 → Nat.testBit U i = true → xx_mh f (i * 6) (yk_n a S U (yk_x U i))) (ab : ∀ i, i < o → ∀ j, j < t → 0 ≤ a i j ∧ (a i j).natAbs ≤ 554344561) : xx_X G l mX3_excessSign 2 0 0 0 (lv_args 0 [.ref p, .int (nI row), .int (nI S), .int (nI U)]) [] A (fun z B => z = .inl (some (.int (iz (yk_ex9 a S U row).sign))) ∧ B.1 = A.1 ∧ (∃ f2, B.2 (p + 4) = xx_i 6 f2) ∧ ∀ q, q ≠ p + 4 → B.2 q = A.2 q) := by
  have S64 : S < 64 := Nat.lt_of_lt_of_le hS (yk_pw ho)
  have U64 : U < 64 := Nat.lt_of_lt_of_le hU (yk_pw ht)
  obtain ⟨h1, ⟨fr, h2, h3⟩, ⟨g, h4, h5⟩, ⟨s8, q8⟩, ⟨x8, r8⟩⟩ := id H
  refine xx_clv (lv2 := [(0, .ref p), (1, .int (nI row)), (2, .int (nI S)), (3, .int (nI U))]) rfl ?_
  refine xx_aload_n dX3_excessSign_0 rfl ?_
  refine xx_get xx_c3 dX3_excessSign_1 wf_X3_21 (j := 4) (by decide) h1 rfl ?_
  refine xx_iconst (v := 0) dX3_excessSign_4 (by decide) ?_
  refine xx_callS (N := mJ7_fill) (vs := [.ref (p + 4), .int 0]) (rest := []) (d2 := 0) (c2 := 0) (s2 := 0) (c3 := 0) (s3 := 0) dX3_excessSign_5 wm_X3_93 ws_J7_fill wz_J7 (by decide) nJ7_fill ⟨pJ7_fill, Nat.le_of_ble_eq_true rfl, by decide, Nat.le_of_ble_eq_true rfl, by decide, by decide⟩ (c_J7_fill (n := 6) (by decide) r8) (fun v9 Eq1 hC => ?_) (fun E9 B9 hC => absurd hC.1 (by simp))
  obtain ⟨hv9, z1q, ⟨f1, k1, k2⟩, k3⟩ := hC
  cases hv9
  refine xx_cst (st2 := []) rfl ?_
  have h1b := (k3 p (by omega)).trans h1
  have H2 : xx_mno Eq1 p py (yk_H a o t) := ⟨h1b, ⟨fr, (k3 _ (by omega)).trans h2, h3⟩, ⟨g, (k3 _ (by omega)).trans h4, h5⟩, ⟨s8, (k3 _ (by omega)).trans q8⟩, ⟨f1, k1⟩⟩
  refine xx_aload_n dX3_excessSign_8 rfl ?_
  refine xx_get xx_c3 dX3_excessSign_9 wf_X3_21 (j := 4) (by decide) h1b rfl ?_
  refine xx_iconst (v := 0) dX3_excessSign_12 (by decide) ?_
  refine xx_aload_n dX3_excessSign_13 rfl ?_
  refine xx_get xx_c3 dX3_excessSign_14 wf_X3_15 (j := 2) (by decide) h1b rfl ?_
  refine xx_aload_n dX3_excessSign_17 rfl ?_
  refine xx_iload_n dX3_excessSign_18 rfl ?_
  refine xx_iload_n dX3_excessSign_19 rfl ?_
  refine xx_callV (N := mX3_place) (vs := [.int (nI S), .int (nI U)]) (b := p) (rest := [.ref (p + 2), .int 0, .ref (p + 4)]) (d2 := 1) (c2 := 0) (s2 := 0) (c3 := 0) (s3 := 0) dX3_excessSign_20 wm_X3_47 wi_X3_place wv_X3_place (k := 3) rfl (by decide) h1b nX3_place ⟨pX3_place, Nat.le_of_ble_eq_true rfl, by decide, Nat.le_of_ble_eq_true rfl, by decide, by decide⟩ (c_X3_place H2 S64 U64) (fun v9 B9 hC => ?_) (fun E9 B9 hC => absurd hC.1 (by simp))
  obtain ⟨hv9, e9⟩ := hC
  cases hv9
  refine xx_cst (st2 := [.int (nI (yk_p S U)), .ref (p + 2), .int 0, .ref (p + 4)]) rfl ?_
  rw [e9]
  refine xx_iconst (v := (-1)) dX3_excessSign_23 (by decide) ?_
  refine xx_callS (N := mX3_addTimes) (vs := [.ref (p + 4), .int 0, .ref (p + 2), .int (nI (yk_p S U)), .int (-1)]) (rest := []) (d2 := 0) (c2 := 0) (s2 := 0) (c3 := 0) (s3 := 0) dX3_excessSign_24 wm_X3_89 ws_X3_addTimes wz_X3 (by decide) nX3_addTimes ⟨pX3_addTimes, Nat.le_of_ble_eq_true rfl, by decide, Nat.le_of_ble_eq_true rfl, by decide, by decide⟩ (c_X3_addTimes (s9 := 0) (t9 := yk_p S U) (t := -1) k1 ((k3 (p + 2) (by omega)).trans h4) (by omega) (yk_pl S64 U64 hc) (by decide) (by decide) (Or.inl (by omega)) (xx_mh0 (fun i hi => k2 _ (by omega))) (h5 S hS U hU hc) (by decide)) (fun v9 Eq2 hC => ?_) (fun E9 B9 hC => absurd hC.1 (by simp))
  obtain ⟨hv9, z2q, ⟨f2, m1, m2, m3⟩, m4⟩ := hC
  cases hv9
  refine xx_cst (st2 := []) rfl ?_
  have fr2 : ∀ q, q ≠ p + 4 → Eq2.2 q = A.2 q := fun q hq => (m4 q hq).trans (k3 q hq)
  have h1c := (fr2 p (by omega)).trans h1
  refine xx_iconst (v := 0) dX3_excessSign_27 (by decide) ?_
  refine xx_istore dX3_excessSign_28 (by decide) ?_
  refine xx_clv (lv2 := [(0, .ref p), (1, .int (nI row)), (2, .int (nI S)), (3, .int (nI U)), (4, .int 0)]) rfl ?_
  refine xx_less [0, 1, 3, 4] ?_
  refine xx_clv (lv2 := [(0, .ref p), (1, .int (nI row)), (3, .int (nI U)), (4, .int (nI 0))]) rfl ?_
  have H3 : xx_mno Eq2 p py (yk_H a o t) := ⟨h1c, ⟨fr, (fr2 _ (by omega)).trans h2, h3⟩, ⟨g, (fr2 _ (by omega)).trans h4, h5⟩, ⟨s8, (fr2 _ (by omega)).trans q8⟩, ⟨f2, m1⟩⟩
  refine l_X3_xs (A := Eq2) H3 ho ht hS hU hc (P.to (fr2 _ (by omega)) (fr2 _ (by omega))) ea dj hrow ((fr2 _ (by omega)).trans hf) hn (fun B f3 y1 y2 y3 y5 => ?_) 6 0 (by omega) Eq2 f2 rfl m1 (by rw [yk_x0]; rw [Int.zero_add, Int.neg_mul, Int.one_mul] at m2; show xx_mh f2 0 (-yk_m a S U + 0); rw [Int.add_zero]; exact m2) (fun q _ => rfl)
  rw [yk_x6 U U64] at y3
  have y3b : xx_mh f3 0 (yk_ex9 a S U row) := by unfold yk_ex9; rw [Int.sub_eq_add_neg, Int.add_comm]; exact y3
  have h1d := (y5 p (by omega)).trans h1c
  refine xx_aload_n dX3_excessSign_79 rfl ?_
  refine xx_get xx_c3 dX3_excessSign_80 wf_X3_21 (j := 4) (by decide) h1d rfl ?_
  refine xx_iconst (v := 0) dX3_excessSign_83 (by decide) ?_
  refine xx_callS (N := mX3_signAt) (vs := [.ref (p + 4), .int 0]) (rest := []) (d2 := 0) (c2 := 0) (s2 := 0) (c3 := 0) (s3 := 0) dX3_excessSign_84 wm_X3_51 ws_X3_signAt wz_X3 (by decide) nX3_signAt ⟨pX3_signAt, Nat.le_of_ble_eq_true rfl, by decide, Nat.le_of_ble_eq_true rfl, by decide, by decide⟩ (c_X3_signAt (s9 := 0) y2 (by decide) (by decide) y3b (Nat.lt_trans (yk_exb S64 U64 hc ho ht hS hU hrow ab) (by decide +kernel))) (fun v9 B9 hC => ?_) (fun E9 B9 hC => absurd hC.1 (by simp))
  obtain ⟨hv9, e9⟩ := hC
  cases hv9
  refine xx_cst (st2 := [.int (iz (yk_ex9 a S U row).sign)]) rfl ?_
  rw [e9]
  exact xx_iret dX3_excessSign_87 rfl ⟨rfl, by omega, ⟨f3, y2⟩, fun q hq => (y5 q hq).trans (fr2 q hq)⟩
/-- is there just one strategy on U that makes S equal, with weights above 0, and none beside gets more -/
def yk_h (a : Nat → Nat → Int) (o S U : Nat) : Prop := yk_m a S U ≠ 0 ∧ (∀ c, c < yb_c U → (yk_n a S U c).sign = (yk_m a S U).sign) ∧ ∀ row, row < o → Nat.testBit S row = false → (yk_ex9 a S U row).sign ≠ (yk_m a S U).sign
theorem yk_sg {x y : Int} : iz x.sign = iz y.sign ↔ x.sign = y.sign := by
  constructor
  · intro h
    have e : ∀ z : Int, (iz z.sign).toInt = z.sign := fun z => by
      rcases Int.lt_trichotomy z 0 with q | q | q
      · rw [Int.sign_eq_neg_one_of_neg q]; rfl
      · rw [q]; rfl
      · rw [Int.sign_eq_one_of_pos q]; rfl
    rw [← e x, ← e y, h]
  · intro h; rw [h]
theorem yk_sg0 {x : Int} : iz x.sign = 0 ↔ x = 0 := by
  constructor
  · intro h
    have := (yk_sg (x := x) (y := 0)).mp h
    exact Int.sign_eq_zero_iff_zero.mp this
  · intro h; rw [h]; rfl
set_option maxRecDepth 100000 in
theorem l_X3_h2 {G : xx_G} {l : Launch} {A : xx_H} {p py o t S U : Nat} {a : Nat → Nat → Int} {mu : Nat} {le : Int} {w : Nat → Nat → Int} (H : xx_mno A p py (yk_H a o t)) (ho : o ≤ 6) (ht : t ≤ 6) (hS : S < 2 ^ o) (hU : U < 2 ^ t) (hc : yb_c U = yb_c S) (P : xx_po A py o t mu le w) (ea : ∀ i, i < o → ∀ j, j < t → a i j = 1 + w i j - le) (dj : py + 4 ≤ p ∨ p + 5 ≤ py) (ab : ∀ i, i < o → ∀ j, j < t → 0 ≤ a i j ∧ (a i j).natAbs ≤ 554344561) (m0 : yk_m a S U ≠ 0) (hn : ∀ c, c < yb_c U → (yk_n a S U c).sign = (yk_m a S U).sign) :
    ∀ (v i : Nat), i + v = o → ∀ (B : xx_H), B.1 = A.1 → (∃ f2, B.2 (p + 3) = xx_i 36 f2 ∧ ∀ i, i < 6 → Nat.testBit U i = true → xx_mh f2 (i * 6) (yk_n a S U (yk_x U i))) → (∃ f2, B.2 (p + 4) = xx_i 6 f2) → (∀ q, q ≠ p + 3 → q ≠ p + 4 → B.2 q = A.2 q) → (∀ row, row < i → Nat.testBit S row = false → (yk_ex9 a S U row).sign ≠ (yk_m a S U).sign) → xx_X G l mX3_holds 3 0 0 67 [(0, .ref p), (1, .int (nI S)), (2, .int (nI U)), (3, .int (iz (yk_m a S U).sign)), (4, .int (nI i))] [] B (fun z B => B.1 = A.1 ∧ (∃ f2, B.2 (p + 3) = xx_i 36 f2) ∧ (∃ f2, B.2 (p + 4) = xx_i 6 f2) ∧ (∀ q, q ≠ p + 3 → q ≠ p + 4 → B.2 q = A.2 q) ∧ ((yk_h a o S U ∧ z = .inl (some (.int 1))) ∨ (¬ yk_h a o S U ∧ z = .inl (some (.int 0))))) := by
  have S64 : S < 64 := Nat.lt_of_lt_of_le hS (yk_pw ho)
  have U64 : U < 64 := Nat.lt_of_lt_of_le hU (yk_pw ht)
  obtain ⟨h1, ⟨fr, h2, h3⟩, ⟨g, h4, h5⟩, ⟨s8, q8⟩, ⟨x8, r8⟩⟩ := id H
  obtain ⟨pb, o6, t6, _, wb, lb⟩ := id P
  have ab2 : ∀ i, i < o → ∀ j, j < t → (a i j).natAbs ≤ 554344561 := fun i hi j hj => (ab i hi j hj).2
  intro v
  induction v with
  | zero =>
    intro i h9i B y1 y2 y3 y4 y5
    have h9e : o = i := by omega
    subst h9e
    have h1b := (y4 p (by omega) (by omega)).trans h1
    have pb2 := (y4 py (by omega) (by omega)).trans pb
    obtain ⟨fs, ys, _⟩ := y2
    refine xx_iload dX3_holds_67 rfl ?_
    refine xx_aload_n dX3_holds_69 rfl ?_
    refine xx_get xx_c3 dX3_holds_70 wf_X3_24 (j := 0) (by decide) h1b rfl ?_
    refine xx_get xx_c4 dX3_holds_73 wf_X3_34 (j := 0) (by decide) pb2 rfl ?_
    refine xx_icmp_ge (tgt := 108) dX3_holds_76 (by decide) (fun j76 => ?_) (fun h => absurd (Int32.le_refl _) h)
    refine xx_iconst (v := 1) dX3_holds_108 (by decide) ?_
    exact xx_zret dX3_holds_109 rfl rfl ⟨y1, ⟨fs, ys⟩, y3, y4, Or.inl ⟨⟨m0, hn, y5⟩, rfl⟩⟩
  | succ v ih =>
    intro i h9i B y1 y2 y3 y4 y5
    have h1b := (y4 p (by omega) (by omega)).trans h1
    have pb2 := (y4 py (by omega) (by omega)).trans pb
    obtain ⟨fs, ys, yn⟩ := id y2
    obtain ⟨fx, yx⟩ := id y3
    have H2 : xx_mno B p py (yk_H a o t) := ⟨h1b, ⟨fr, (y4 _ (by omega) (by omega)).trans h2, h3⟩, ⟨g, (y4 _ (by omega) (by omega)).trans h4, h5⟩, ⟨fs, ys⟩, ⟨fx, yx⟩⟩
    refine xx_iload dX3_holds_67 rfl ?_
    refine xx_aload_n dX3_holds_69 rfl ?_
    refine xx_get xx_c3 dX3_holds_70 wf_X3_24 (j := 0) (by decide) h1b rfl ?_
    refine xx_get xx_c4 dX3_holds_73 wf_X3_34 (j := 0) (by decide) pb2 rfl ?_
    refine xx_icmp_ge (tgt := 108) dX3_holds_76 (by decide) (fun h => absurd h (nI_ge (a := i) (b := o) (by omega) (by omega))) (fun j76 => ?_)
    refine xx_iload_n dX3_holds_79 rfl ?_
    refine xx_iload dX3_holds_80 rfl ?_
    refine xx_ishr dX3_holds_82 ?_
    refine xx_iconst (v := 1) dX3_holds_83 (by decide) ?_
    refine xx_iand dX3_holds_84 ?_
    refine xx_eqi (y := if Nat.testBit S i then 1 else 0) (yb_sh S64 (by omega)) ?_
    refine xx_if_ne (tgt := 102) dX3_holds_85 (by decide) (fun j85 => ?_) (fun j85 => ?_)
    · have tb : Nat.testBit S i = true := Classical.byContradiction (fun z => j85 (if_neg z))
      refine xx_iinc (v := nI (i + 1)) dX3_holds_102 rfl (nI_1 i) (by decide) ?_
      refine xx_goto (tgt := 67) dX3_holds_105 (by decide) ?_
      refine xx_clv (lv2 := [(0, .ref p), (1, .int (nI S)), (2, .int (nI U)), (3, .int (iz (yk_m a S U).sign)), (4, .int (nI (i + 1)))]) rfl ?_
      refine ih (i + 1) (by omega) B y1 y2 y3 y4 (fun row hrow tr => ?_)
      by_cases z : row = i
      · rw [z, tb] at tr; cases tr
      · exact y5 row (by omega) tr
    · refine xx_aload_n dX3_holds_88 rfl ?_
      refine xx_iload dX3_holds_89 rfl ?_
      refine xx_iload_n dX3_holds_91 rfl ?_
      refine xx_iload_n dX3_holds_92 rfl ?_
      refine xx_callV (N := mX3_excessSign) (vs := [.int (nI i), .int (nI S), .int (nI U)]) (b := p) (rest := []) (d2 := 2) (c2 := 0) (s2 := 0) (c3 := 0) (s3 := 0) dX3_holds_93 wm_X3_62 wi_X3_excessSign wv_X3_excessSign (k := 3) rfl (by decide) h1b nX3_excessSign ⟨pX3_excessSign, Nat.le_of_ble_eq_true rfl, by decide, Nat.le_of_ble_eq_true rfl, by decide, by decide⟩ (c_X3_excessSign (row := i) (S := S) (U := U) H2 ho ht hS hU hc (P.to (y4 _ (by omega) (by omega)) (y4 _ (by omega) (by omega))) ea dj (by omega) ys yn ab) (fun v9 Eq1 hC => ?_) (fun E9 B9 hC => absurd hC.1 (by simp))
      obtain ⟨hv9, z1q, ⟨f2, k1⟩, k2⟩ := hC
      cases hv9
      refine xx_cst (st2 := [.int (iz (yk_ex9 a S U i).sign)]) rfl ?_
      have tb : Nat.testBit S i = false := by cases hz : Nat.testBit S i; rfl; exact absurd ((if_pos hz).symm.trans j85) (by decide)
      refine xx_iload_n dX3_holds_96 rfl ?_
      refine xx_icmp_ne (tgt := 102) dX3_holds_97 (by decide) (fun j97 => ?_) (fun j97 => ?_)
      · refine xx_iinc (v := nI (i + 1)) dX3_holds_102 rfl (nI_1 i) (by decide) ?_
        refine xx_goto (tgt := 67) dX3_holds_105 (by decide) ?_
        refine xx_clv (lv2 := [(0, .ref p), (1, .int (nI S)), (2, .int (nI U)), (3, .int (iz (yk_m a S U).sign)), (4, .int (nI (i + 1)))]) rfl ?_
        refine ih (i + 1) (by omega) Eq1 (by omega) ⟨fs, (k2 _ (by omega)).trans ys, yn⟩ ⟨f2, k1⟩ (fun q a1 a2 => (k2 q a2).trans (y4 q a1 a2)) (fun row hrow tr => ?_)
        by_cases z : row = i
        · rw [z]; exact fun e => j97 (yk_sg.mpr e)
        · exact y5 row (by omega) tr
      · refine xx_iconst (v := 0) dX3_holds_100 (by decide) ?_
        exact xx_zret dX3_holds_101 rfl rfl ⟨by omega, ⟨fs, (k2 _ (by omega)).trans ys⟩, ⟨f2, k1⟩, fun q a1 a2 => (k2 q a2).trans (y4 q a1 a2), Or.inr ⟨fun h => h.2.2 i (by omega) tb (yk_sg.mp j97), rfl⟩⟩
set_option maxRecDepth 100000 in
theorem l_X3_h1 {G : xx_G} {l : Launch} {A : xx_H} {p py o t S U : Nat} {a : Nat → Nat → Int} {mu : Nat} {le : Int} {w : Nat → Nat → Int} (H : xx_mno A p py (yk_H a o t)) (ho : o ≤ 6) (ht : t ≤ 6) (hS : S < 2 ^ o) (hU : U < 2 ^ t) (hc : yb_c U = yb_c S) (P : xx_po A py o t mu le w) (ea : ∀ i, i < o → ∀ j, j < t → a i j = 1 + w i j - le) (dj : py + 4 ≤ p ∨ p + 5 ≤ py) (ab : ∀ i, i < o → ∀ j, j < t → 0 ≤ a i j ∧ (a i j).natAbs ≤ 554344561) (m0 : yk_m a S U ≠ 0) :
    ∀ (v i : Nat), i + v = 6 → ∀ (B : xx_H) (f1 : Nat → Int32), B.1 = A.1 → B.2 (p + 3) = xx_i 36 f1 → (∀ j, j < i → Nat.testBit U j = true → xx_mh f1 (j * 6) (yk_n a S U (yk_x U j)) ∧ (yk_n a S U (yk_x U j)).sign = (yk_m a S U).sign) → (∀ q, q ≠ p + 3 → B.2 q = A.2 q) → xx_X G l mX3_holds 3 0 0 16 [(0, .ref p), (1, .int (nI S)), (2, .int (nI U)), (3, .int (iz (yk_m a S U).sign)), (4, .int (nI i))] [] B (fun z B => B.1 = A.1 ∧ (∃ f2, B.2 (p + 3) = xx_i 36 f2) ∧ (∃ f2, B.2 (p + 4) = xx_i 6 f2) ∧ (∀ q, q ≠ p + 3 → q ≠ p + 4 → B.2 q = A.2 q) ∧ ((yk_h a o S U ∧ z = .inl (some (.int 1))) ∨ (¬ yk_h a o S U ∧ z = .inl (some (.int 0))))) := by
  have S64 : S < 64 := Nat.lt_of_lt_of_le hS (yk_pw ho)
  have U64 : U < 64 := Nat.lt_of_lt_of_le hU (yk_pw ht)
  obtain ⟨h1, ⟨fr, h2, h3⟩, ⟨g, h4, h5⟩, ⟨s8, q8⟩, ⟨x8, r8⟩⟩ := id H
  obtain ⟨pb, o6, t6, _, wb, lb⟩ := id P
  have ab2 : ∀ i, i < o → ∀ j, j < t → (a i j).natAbs ≤ 554344561 := fun i hi j hj => (ab i hi j hj).2
  intro v
  induction v with
  | zero =>
    intro i h9i B f1 y1 y2 y3 y4
    have h9e : 6 = i := by omega
    subst h9e
    refine xx_clv (lv2 := [(0, .ref p), (1, .int (nI S)), (2, .int (nI U)), (3, .int (iz (yk_m a S U).sign)), (4, .int 6)]) rfl ?_
    refine xx_iload dX3_holds_16 rfl ?_
    refine xx_bipush (v := 6) dX3_holds_18 (by decide) ?_
    refine xx_icmp_ge (tgt := 64) dX3_holds_20 (by decide) (fun j20 => ?_) (fun h => absurd (by decide) h)
    refine xx_iconst (v := 0) dX3_holds_64 (by decide) ?_
    refine xx_istore dX3_holds_65 (by decide) ?_
    refine xx_clv (lv2 := [(0, .ref p), (1, .int (nI S)), (2, .int (nI U)), (3, .int (iz (yk_m a S U).sign)), (4, .int 0)]) rfl ?_
    refine xx_clv (lv2 := [(0, .ref p), (1, .int (nI S)), (2, .int (nI U)), (3, .int (iz (yk_m a S U).sign)), (4, .int (nI 0))]) rfl ?_
    have hn : ∀ c, c < yb_c U → (yk_n a S U c).sign = (yk_m a S U).sign := fun c hc2 => by have := (y3 (yk_e U c) (yk_e6 U U64 c hc2) (yk_et U U64 c hc2)).2; rw [yk_xe U U64 c hc2] at this; exact this
    have H2 : xx_mno B p py (yk_H a o t) := ⟨(y4 _ (by omega)).trans h1, ⟨fr, (y4 _ (by omega)).trans h2, h3⟩, ⟨g, (y4 _ (by omega)).trans h4, h5⟩, ⟨f1, y2⟩, ⟨x8, (y4 _ (by omega)).trans r8⟩⟩
    refine xx_mono (fun z C h => ?_) (l_X3_h2 (A := B) H2 ho ht hS hU hc (P.to (y4 _ (by omega)) (y4 _ (by omega))) ea dj ab m0 hn o 0 (by omega) B rfl ⟨f1, y2, fun i hi tb => (y3 i hi tb).1⟩ ⟨x8, (y4 _ (by omega)).trans r8⟩ (fun q _ _ => rfl) (fun row hrow => absurd hrow (Nat.not_lt_zero row)))
    exact ⟨h.1.trans y1, h.2.1, h.2.2.1, fun q a1 a2 => (h.2.2.2.1 q a1 a2).trans (y4 q a1), h.2.2.2.2⟩
  | succ v ih =>
    intro i h9i B f1 y1 y2 y3 y4
    have h1b := (y4 p (by omega)).trans h1
    have H2 : xx_mno B p py (yk_H a o t) := ⟨h1b, ⟨fr, (y4 _ (by omega)).trans h2, h3⟩, ⟨g, (y4 _ (by omega)).trans h4, h5⟩, ⟨f1, y2⟩, ⟨x8, (y4 _ (by omega)).trans r8⟩⟩
    refine xx_iload dX3_holds_16 rfl ?_
    refine xx_bipush (v := 6) dX3_holds_18 (by decide) ?_
    refine xx_icmp_ge (tgt := 64) dX3_holds_20 (by decide) (fun h => absurd h (nI_ge (a := i) (b := 6) (by omega) (by omega))) (fun j20 => ?_)
    refine xx_iload_n dX3_holds_23 rfl ?_
    refine xx_iload dX3_holds_24 rfl ?_
    refine xx_ishr dX3_holds_26 ?_
    refine xx_iconst (v := 1) dX3_holds_27 (by decide) ?_
    refine xx_iand dX3_holds_28 ?_
    refine xx_eqi (y := if Nat.testBit U i then 1 else 0) (yb_sh U64 (by omega)) ?_
    refine xx_if_eq (tgt := 58) dX3_holds_29 (by decide) (fun j29 => ?_) (fun j29 => ?_)
    · have tb : Nat.testBit U i = false := by cases hz : Nat.testBit U i; rfl; exact absurd (j29.symm.trans (if_pos hz)) (by decide)
      refine xx_iinc (v := nI (i + 1)) dX3_holds_58 rfl (nI_1 i) (by decide) ?_
      refine xx_goto (tgt := 16) dX3_holds_61 (by decide) ?_
      refine xx_clv (lv2 := [(0, .ref p), (1, .int (nI S)), (2, .int (nI U)), (3, .int (iz (yk_m a S U).sign)), (4, .int (nI (i + 1)))]) rfl ?_
      refine ih (i + 1) (by omega) B f1 y1 y2 (fun j hj tj => ?_) y4
      by_cases z : j = i
      · rw [z, tb] at tj; cases tj
      · exact y3 j (by omega) tj
    · refine xx_aload_n dX3_holds_32 rfl ?_
      refine xx_iload_n dX3_holds_33 rfl ?_
      refine xx_iload_n dX3_holds_34 rfl ?_
      refine xx_iload dX3_holds_35 rfl ?_
      have tb : Nat.testBit U i = true := Classical.byContradiction (fun z => j29 (if_neg z))
      have xl := yk_xl U U64 i (by omega) tb
      refine xx_callV (N := mX3_sumCofactors) (vs := [.int (nI S), .int (nI U), .int (nI i)]) (b := p) (rest := []) (d2 := 2) (c2 := 0) (s2 := 0) (c3 := 0) (s3 := 0) dX3_holds_37 wm_X3_58 wi_X3_sumCofactors wv_X3_sumCofactors (k := 3) rfl (by decide) h1b nX3_sumCofactors ⟨pX3_sumCofactors, Nat.le_of_ble_eq_true rfl, by decide, Nat.le_of_ble_eq_true rfl, by decide, by decide⟩ (c_X3_sumCofactors (c9 := i) H2 ho ht hS hU hc (by omega) tb y2) (fun v9 Eq1 hC => ?_) (fun E9 B9 hC => absurd hC.1 (by simp))
      obtain ⟨hv9, z1q, ⟨f2, k1, k2, k3⟩, k4⟩ := hC
      cases hv9
      refine xx_cst (st2 := []) rfl ?_
      have h1c := (k4 p (by omega)).trans h1b
      refine xx_aload_n dX3_holds_40 rfl ?_
      refine xx_get xx_c3 dX3_holds_41 wf_X3_18 (j := 3) (by decide) h1c rfl ?_
      refine xx_iload dX3_holds_44 rfl ?_
      refine xx_bipush (v := 6) dX3_holds_46 (by decide) ?_
      refine xx_imul dX3_holds_48 ?_
      refine xx_eqi (y := nI (i * 6)) (pk_mul i 6) ?_
      refine xx_callS (N := mX3_signAt) (vs := [.ref (p + 3), .int (nI (i * 6))]) (rest := []) (d2 := 0) (c2 := 0) (s2 := 0) (c3 := 0) (s3 := 0) dX3_holds_49 wm_X3_51 ws_X3_signAt wz_X3 (by decide) nX3_signAt ⟨pX3_signAt, Nat.le_of_ble_eq_true rfl, by decide, Nat.le_of_ble_eq_true rfl, by decide, by decide⟩ (c_X3_signAt (s9 := i * 6) k1 (by omega) (by decide) k2 (Nat.lt_trans (yk_nb S64 U64 hc xl ho ht hS hU ab2) (by decide +kernel))) (fun v9 B9 hC => ?_) (fun E9 B9 hC => absurd hC.1 (by simp))
      obtain ⟨hv9, e9⟩ := hC
      cases hv9
      refine xx_cst (st2 := [.int (iz (yk_n a S U (yk_x U i)).sign)]) rfl ?_
      rw [e9]
      refine xx_iload_n dX3_holds_52 rfl ?_
      refine xx_icmp_eq (tgt := 58) dX3_holds_53 (by decide) (fun j53 => ?_) (fun j53 => ?_)
      · refine xx_iinc (v := nI (i + 1)) dX3_holds_58 rfl (nI_1 i) (by decide) ?_
        refine xx_goto (tgt := 16) dX3_holds_61 (by decide) ?_
        refine xx_clv (lv2 := [(0, .ref p), (1, .int (nI S)), (2, .int (nI U)), (3, .int (iz (yk_m a S U).sign)), (4, .int (nI (i + 1)))]) rfl ?_
        refine ih (i + 1) (by omega) Eq1 f2 (by omega) k1 (fun j hj tj => ?_) (fun q hq => (k4 q hq).trans (y4 q hq))
        by_cases z : j = i
        · rw [z]; exact ⟨k2, yk_sg.mp j53⟩
        · exact ⟨(y3 j (by omega) tj).1.to (fun q hq => k3 _ (by omega)), (y3 j (by omega) tj).2⟩
      · refine xx_iconst (v := 0) dX3_holds_56 (by decide) ?_
        exact xx_zret dX3_holds_57 rfl rfl ⟨by omega, ⟨f2, k1⟩, ⟨x8, (k4 _ (by omega)).trans ((y4 _ (by omega)).trans r8)⟩, fun q a1 a2 => (k4 q a1).trans (y4 q a1), Or.inr ⟨fun h => j53 (yk_sg.mpr (h.2.1 _ xl)), rfl⟩⟩
set_option maxRecDepth 100000 in
theorem c_X3_holds {G : xx_G} {l : Launch} {A : xx_H} {p py o t S U : Nat} {a : Nat → Nat → Int} {mu : Nat} {le : Int} {w : Nat → Nat → Int} (H : xx_mno A p py (yk_H a o t)) (ho : o ≤ 6) (ht : t ≤ 6) (hS : S < 2 ^ o) (hU : U < 2 ^ t) (hc : yb_c U = yb_c S) (P : xx_po A py o t mu le w) (ea : ∀ i, i < o → ∀ j, j < t → a i j = 1 + w i j - le) (dj : py + 4 ≤ p ∨ p + 5 ≤ py) (ab : ∀ i, i < o → ∀ j, j < t → 0 ≤ a i j ∧ (a i j).natAbs ≤ 554344561) : xx_X G l mX3_holds 3 0 0 0 (lv_args 0 [.ref p, .int (nI S), .int (nI U)]) [] A (fun z B => B.1 = A.1 ∧ (∃ f2, B.2 (p + 3) = xx_i 36 f2) ∧ (∃ f2, B.2 (p + 4) = xx_i 6 f2) ∧ (∀ q, q ≠ p + 3 → q ≠ p + 4 → B.2 q = A.2 q) ∧ ((yk_h a o S U ∧ z = .inl (some (.int 1))) ∨ (¬ yk_h a o S U ∧ z = .inl (some (.int 0))))) := by
  have S64 : S < 64 := Nat.lt_of_lt_of_le hS (yk_pw ho)
  have U64 : U < 64 := Nat.lt_of_lt_of_le hU (yk_pw ht)
  obtain ⟨h1, ⟨fr, h2, h3⟩, ⟨g, h4, h5⟩, ⟨s8, q8⟩, ⟨x8, r8⟩⟩ := id H
  obtain ⟨pb, o6, t6, _, wb, lb⟩ := id P
  have ab2 : ∀ i, i < o → ∀ j, j < t → (a i j).natAbs ≤ 554344561 := fun i hi j hj => (ab i hi j hj).2
  refine xx_clv (lv2 := [(0, .ref p), (1, .int (nI S)), (2, .int (nI U))]) rfl ?_
  refine xx_aload_n dX3_holds_0 rfl ?_
  refine xx_iload_n dX3_holds_1 rfl ?_
  refine xx_iload_n dX3_holds_2 rfl ?_
  refine xx_callV (N := mX3_signOf) (vs := [.int (nI S), .int (nI U)]) (b := p) (rest := []) (d2 := 2) (c2 := 0) (s2 := 0) (c3 := 0) (s3 := 0) dX3_holds_3 wm_X3_55 wi_X3_signOf wv_X3_signOf (k := 3) rfl (by decide) h1 nX3_signOf ⟨pX3_signOf, Nat.le_of_ble_eq_true rfl, by decide, Nat.le_of_ble_eq_true rfl, by decide, by decide⟩ (c_X3_signOf H ho ht hS hU hc ab2) (fun v9 B9 hC => ?_) (fun E9 B9 hC => absurd hC.1 (by simp))
  obtain ⟨hv9, e9⟩ := hC
  cases hv9
  refine xx_cst (st2 := [.int (iz (yk_m a S U).sign)]) rfl ?_
  rw [e9]
  refine xx_istore_n dX3_holds_6 (by decide) ?_
  refine xx_clv (lv2 := [(0, .ref p), (1, .int (nI S)), (2, .int (nI U)), (3, .int (iz (yk_m a S U).sign))]) rfl ?_
  refine xx_iload_n dX3_holds_7 rfl ?_
  refine xx_if_ne (tgt := 13) dX3_holds_8 (by decide) (fun j8 => ?_) (fun j8 => ?_)
  · refine xx_iconst (v := 0) dX3_holds_13 (by decide) ?_
    refine xx_istore dX3_holds_14 (by decide) ?_
    refine xx_clv (lv2 := [(0, .ref p), (1, .int (nI S)), (2, .int (nI U)), (3, .int (iz (yk_m a S U).sign)), (4, .int 0)]) rfl ?_
    refine xx_clv (lv2 := [(0, .ref p), (1, .int (nI S)), (2, .int (nI U)), (3, .int (iz (yk_m a S U).sign)), (4, .int (nI 0))]) rfl ?_
    exact l_X3_h1 H ho ht hS hU hc P ea dj ab (fun z => j8 (yk_sg0.mpr z)) 6 0 (by omega) A s8 rfl q8 (fun j hj => absurd hj (Nat.not_lt_zero j)) (fun q _ => rfl)
  · refine xx_iconst (v := 0) dX3_holds_11 (by decide) ?_
    exact xx_zret dX3_holds_12 rfl rfl ⟨rfl, ⟨s8, q8⟩, ⟨x8, r8⟩, fun q _ _ => rfl, Or.inr ⟨fun h => h.1 (yk_sg0.mp j8), rfl⟩⟩
set_option maxRecDepth 100000 in
theorem l_X3_rd {G : xx_G} {l : Launch} {A : xx_H} {p py o t S U : Nat} {a : Nat → Nat → Int} {s : Nat} {tt9 : Int} {Q : Option Value ⊕ String → xx_H → Prop} (H : xx_mno A p py (yk_H a o t)) (ho : o ≤ 6) (ht : t ≤ 6) (hS : S < 2 ^ o) (hU : U < 2 ^ t) (hc : yb_c U = yb_c S) (ab2 : ∀ i, i < o → ∀ j, j < t → (a i j).natAbs ≤ 554344561) (dw : p + 5 ≤ s ∨ s + 16 ≤ p) (kC : ∀ (B : xx_H) (Y : Nat → Int), (B.1 = A.1) → (xx_wt B s Y tt9) → (∃ f2, B.2 (p + 3) = xx_i 36 f2) → (∀ k, k < 6 → Y k = if k < 6 then (if Nat.testBit U k = true then ((yk_n a S U (yk_x U k)).natAbs : Int) else 0) else 0) → (∀ q, q ≠ p + 3 → (q < s ∨ s + 16 ≤ q) → B.2 q = A.2 q) → xx_X G l mX3_read 3 0 0 66 [(0, .ref p)] [] B Q) :
    ∀ (v i : Nat), i + v = 6 → ∀ (B : xx_H) (Y : Nat → Int), (B.1 = A.1) → (xx_wt B s Y tt9) → (∃ f2, B.2 (p + 3) = xx_i 36 f2) → (∀ k, k < 6 → Y k = if k < i then (if Nat.testBit U k = true then ((yk_n a S U (yk_x U k)).natAbs : Int) else 0) else 0) → (∀ q, q ≠ p + 3 → (q < s ∨ s + 16 ≤ q) → B.2 q = A.2 q) → xx_X G l mX3_read 3 0 0 3 [(0, .ref p), (1, .int (nI S)), (2, .int (nI U)), (3, .ref s), (4, .int (nI i))] [] B Q := by
  have S64 : S < 64 := Nat.lt_of_lt_of_le hS (yk_pw ho)
  have U64 : U < 64 := Nat.lt_of_lt_of_le hU (yk_pw ht)
  obtain ⟨h1, ⟨fr, h2, h3⟩, ⟨g, h4, h5⟩, ⟨s8, q8⟩, ⟨x8, r8⟩⟩ := id H
  intro v
  induction v with
  | zero =>
    intro i h9i B Y y1 W y0 y3 y4
    have h9e : 6 = i := by omega
    subst h9e
    refine xx_clv (lv2 := [(0, .ref p), (1, .int (nI S)), (2, .int (nI U)), (3, .ref s), (4, .int 6)]) rfl ?_
    refine xx_iload dX3_read_3 rfl ?_
    refine xx_bipush (v := 6) dX3_read_5 (by decide) ?_
    refine xx_icmp_ge (tgt := 66) dX3_read_7 (by decide) (fun j7 => ?_) (fun h => absurd (by decide) h)
    refine xx_less [0] ?_
    refine xx_clv (lv2 := [(0, .ref p)]) rfl ?_
    exact kC B Y y1 W y0 y3 y4
  | succ v ih =>
    intro i h9i B Y y1 W y0 y3 y4
    obtain ⟨w1, ⟨h9, w2, w3⟩, w4, w5⟩ := id W
    obtain ⟨fs, fs1⟩ := id y0
    have h1b := (y4 p (by omega) (by omega)).trans h1
    have H2 : xx_mno B p py (yk_H a o t) := ⟨h1b, ⟨fr, (y4 _ (by omega) (by omega)).trans h2, h3⟩, ⟨g, (y4 _ (by omega) (by omega)).trans h4, h5⟩, ⟨fs, fs1⟩, ⟨x8, (y4 _ (by omega) (by omega)).trans r8⟩⟩
    refine xx_iload dX3_read_3 rfl ?_
    refine xx_bipush (v := 6) dX3_read_5 (by decide) ?_
    refine xx_icmp_ge (tgt := 66) dX3_read_7 (by decide) (fun h => absurd h (nI_ge (a := i) (b := 6) (by omega) (by omega))) (fun j7 => ?_)
    refine xx_iload_n dX3_read_10 rfl ?_
    refine xx_iload dX3_read_11 rfl ?_
    refine xx_ishr dX3_read_13 ?_
    refine xx_iconst (v := 1) dX3_read_14 (by decide) ?_
    refine xx_iand dX3_read_15 ?_
    refine xx_eqi (y := if Nat.testBit U i then 1 else 0) (yb_sh U64 (by omega)) ?_
    refine xx_if_eq (tgt := 60) dX3_read_16 (by decide) (fun j16 => ?_) (fun j16 => ?_)
    · have tb : Nat.testBit U i = false := by cases hz : Nat.testBit U i; rfl; exact absurd (j16.symm.trans (if_pos hz)) (by decide)
      refine xx_iinc (v := nI (i + 1)) dX3_read_60 rfl (nI_1 i) (by decide) ?_
      refine xx_clv (lv2 := [(0, .ref p), (1, .int (nI S)), (2, .int (nI U)), (3, .ref s), (4, .int (nI (i + 1)))]) rfl ?_
      refine xx_goto (tgt := 3) dX3_read_63 (by decide) ?_
      refine xx_less [0, 1, 2, 3, 4] ?_
      refine xx_clv (lv2 := [(0, .ref p), (1, .int (nI S)), (2, .int (nI U)), (3, .ref s), (4, .int (nI (i + 1)))]) rfl ?_
      refine ih (i + 1) (by omega) B Y y1 W y0 (fun k hk => ?_) y4
      rw [y3 k hk]
      by_cases z : k < i
      · rw [if_pos z, if_pos (show k < i + 1 by omega)]
      · rw [if_neg z]
        by_cases e : k = i
        · rw [if_pos (show k < i + 1 by omega), e, if_neg (by rw [tb]; decide)]
        · rw [if_neg (show ¬ k < i + 1 by omega)]
    · refine xx_aload_n dX3_read_19 rfl ?_
      refine xx_iload_n dX3_read_20 rfl ?_
      refine xx_iload_n dX3_read_21 rfl ?_
      refine xx_iload dX3_read_22 rfl ?_
      have tb : Nat.testBit U i = true := Classical.byContradiction (fun z => j16 (if_neg z))
      have xl := yk_xl U U64 i (by omega) tb
      refine xx_callV (N := mX3_sumCofactors) (vs := [.int (nI S), .int (nI U), .int (nI i)]) (b := p) (rest := []) (d2 := 2) (c2 := 0) (s2 := 0) (c3 := 0) (s3 := 0) dX3_read_24 wm_X3_58 wi_X3_sumCofactors wv_X3_sumCofactors (k := 3) rfl (by decide) h1b nX3_sumCofactors ⟨pX3_sumCofactors, Nat.le_of_ble_eq_true rfl, by decide, Nat.le_of_ble_eq_true rfl, by decide, by decide⟩ (c_X3_sumCofactors (c9 := i) H2 ho ht hS hU hc (by omega) tb fs1) (fun v9 Eq1 hC => ?_) (fun E9 B9 hC => absurd hC.1 (by simp))
      obtain ⟨hv9, z1q, ⟨f2, k1, k2, k3⟩, k4⟩ := hC
      cases hv9
      refine xx_cst (st2 := []) rfl ?_
      have h1c := (k4 p (by omega)).trans h1b
      have w1c := (k4 s (by omega)).trans w1
      have bd9 := Nat.lt_trans (yk_nb S64 U64 hc xl ho ht hS hU ab2) (show 2 ^ 160 < 2 ^ 185 by decide +kernel)
      refine xx_aload_n dX3_read_27 rfl ?_
      refine xx_get xx_c7 dX3_read_28 wf_X3_66 (j := 0) (by decide) w1c rfl ?_
      refine xx_iload dX3_read_31 rfl ?_
      refine xx_aald (kd := 10) (b := s + 2 + 2 * i) dX3_read_33 (by decide) rfl ((k4 (s + 1) (by omega)).trans w2) (vp_in_nI (by omega) (by decide)) (by rw [nI_clamp (by omega)]; exact w3 _ (by omega)) ?_
      refine xx_aload_n dX3_read_34 rfl ?_
      refine xx_get xx_c3 dX3_read_35 wf_X3_18 (j := 3) (by decide) h1c rfl ?_
      refine xx_iload dX3_read_38 rfl ?_
      refine xx_bipush (v := 6) dX3_read_40 (by decide) ?_
      refine xx_imul dX3_read_42 ?_
      refine xx_eqi (y := nI (i * 6)) (pk_mul i 6) ?_
      refine xx_bipush (v := 6) dX3_read_43 (by decide) ?_
      refine xx_aload_n dX3_read_45 rfl ?_
      refine xx_get xx_c3 dX3_read_46 wf_X3_18 (j := 3) (by decide) h1c rfl ?_
      refine xx_iload dX3_read_49 rfl ?_
      refine xx_bipush (v := 6) dX3_read_51 (by decide) ?_
      refine xx_imul dX3_read_53 ?_
      refine xx_eqi (y := nI (i * 6)) (pk_mul i 6) ?_
      refine xx_callS (N := mX3_signAt) (vs := [.ref (p + 3), .int (nI (i * 6))]) (rest := [.int 6, .int (nI (i * 6)), .ref (p + 3), .ref (s + 2 + 2 * i)]) (d2 := 0) (c2 := 0) (s2 := 0) (c3 := 0) (s3 := 0) dX3_read_54 wm_X3_51 ws_X3_signAt wz_X3 (by decide) nX3_signAt ⟨pX3_signAt, Nat.le_of_ble_eq_true rfl, by decide, Nat.le_of_ble_eq_true rfl, by decide, by decide⟩ (c_X3_signAt (s9 := i * 6) k1 (by omega) (by decide) k2 bd9) (fun v9 B9 hC => ?_) (fun E9 B9 hC => absurd hC.1 (by simp))
      obtain ⟨hv9, e9⟩ := hC
      cases hv9
      refine xx_cst (st2 := [.int (iz (yk_n a S U (yk_x U i)).sign), .int 6, .int (nI (i * 6)), .ref (p + 3), .ref (s + 2 + 2 * i)]) rfl ?_
      rw [e9]
      have b4 : xx_bg Eq1 (s + 2 + 2 * i) _ := (w4 i (by omega)).to (k4 _ (by omega)) (k4 _ (by omega))
      obtain ⟨f9, l9, bo, _⟩ := id b4
      refine xx_callV (N := mX0_setToSize) (vs := [.ref (p + 3), .int (nI (i * 6)), .int 6, .int (iz (yk_n a S U (yk_x U i)).sign)]) (b := (s + 2 + 2 * i)) (rest := []) (d2 := 1) (c2 := 0) (s2 := 0) (c3 := 0) (s3 := 0) dX3_read_57 wm_X3_72 wi_X0_setToSize wv_X0_setToSize (k := 0) rfl (by decide) bo nX0_setToSize ⟨pX0_setToSize, Nat.le_of_ble_eq_true rfl, by decide, Nat.le_of_ble_eq_true rfl, by decide, by decide⟩ (c_X0_setToSize (s9 := i * 6) (v := yk_n a S U (yk_x U i)) b4 k1 (by omega) (by decide) (by omega) (by omega) k2 bd9) (fun v9 Eq2 hC => ?_) (fun E9 B9 hC => absurd hC.1 (by simp))
      obtain ⟨hv9, z2q, m1, m2⟩ := hC
      cases hv9
      refine xx_cst (st2 := []) rfl ?_
      have W1 : xx_wt Eq1 s Y tt9 := W.to (fun q a1 a2 => k4 q (by omega))
      refine xx_iinc (v := nI (i + 1)) dX3_read_60 rfl (nI_1 i) (by decide) ?_
      refine xx_clv (lv2 := [(0, .ref p), (1, .int (nI S)), (2, .int (nI U)), (3, .ref s), (4, .int (nI (i + 1)))]) rfl ?_
      refine xx_goto (tgt := 3) dX3_read_63 (by decide) ?_
      refine xx_less [0, 1, 2, 3, 4] ?_
      refine xx_clv (lv2 := [(0, .ref p), (1, .int (nI S)), (2, .int (nI U)), (3, .ref s), (4, .int (nI (i + 1)))]) rfl ?_
      refine ih (i + 1) (by omega) Eq2 _ (by omega) (W1.put (by omega) m1 m2) ⟨f2, (m2 _ (by omega) (by omega)).trans k1⟩ (fun k hk => ?_) (fun q a1 a2 => (m2 q (by omega) (by omega)).trans ((k4 q a1).trans (y4 q a1 a2)))
      by_cases e : k = i
      · rw [e, yy_un_s, if_pos (show i < i + 1 by omega), if_pos tb]
      · rw [yy_un_n e, y3 k hk]
        by_cases z : k < i
        · rw [if_pos z, if_pos (show k < i + 1 by omega)]
        · rw [if_neg z, if_neg (show ¬ k < i + 1 by omega)]
set_option maxRecDepth 100000 in
theorem c_X3_read {G : xx_G} {l : Launch} {A : xx_H} {p py o t S U : Nat} {a : Nat → Nat → Int} {s : Nat} {tt9 : Int} {X : Nat → Int} (H : xx_mno A p py (yk_H a o t)) (ho : o ≤ 6) (ht : t ≤ 6) (hS : S < 2 ^ o) (hU : U < 2 ^ t) (hc : yb_c U = yb_c S) (ab2 : ∀ i, i < o → ∀ j, j < t → (a i j).natAbs ≤ 554344561) (dw : p + 5 ≤ s ∨ s + 16 ≤ p) (W : xx_wt A s X tt9) (hX : ∀ k, k < 6 → X k = 0) : xx_X G l mX3_read 3 0 0 0 (lv_args 0 [.ref p, .int (nI S), .int (nI U), .ref s]) [] A (fun z B => z = .inl none ∧ B.1 = A.1 ∧ xx_wt B s (fun k => if Nat.testBit U k = true then ((yk_n a S U (yk_x U k)).natAbs : Int) else 0) tt9 ∧ (∃ f2, B.2 (p + 3) = xx_i 36 f2) ∧ ∀ q, q ≠ p + 3 → (q < s ∨ s + 16 ≤ q) → B.2 q = A.2 q) := by
  refine xx_clv (lv2 := [(0, .ref p), (1, .int (nI S)), (2, .int (nI U)), (3, .ref s)]) rfl ?_
  refine xx_iconst (v := 0) dX3_read_0 (by decide) ?_
  refine xx_istore dX3_read_1 (by decide) ?_
  refine xx_clv (lv2 := [(0, .ref p), (1, .int (nI S)), (2, .int (nI U)), (3, .ref s), (4, .int 0)]) rfl ?_
  refine xx_clv (lv2 := [(0, .ref p), (1, .int (nI S)), (2, .int (nI U)), (3, .ref s), (4, .int (nI 0))]) rfl ?_
  refine l_X3_rd (tt9 := tt9) H ho ht hS hU hc ab2 dw (fun B Y y1 W2 y0 y3 y4 => ?_) 6 0 (by omega) A X rfl W H.2.2.2.1 (fun k hk => (hX k hk).trans (if_neg (Nat.not_lt_zero k)).symm) (fun q _ _ => rfl)
  exact xx_vret dX3_read_66 rfl ⟨rfl, y1, W2.cg (fun k hk => by rw [y3 k hk, if_pos hk]), y0, y4⟩
