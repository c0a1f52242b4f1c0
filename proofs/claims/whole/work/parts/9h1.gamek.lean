/-! ===== game of both, with what it keeps ===== -/
set_option maxHeartbeats 1000000 in
set_option maxRecDepth 100000 in
theorem c_X8_gameK {G : xx_G} {l : Launch} {A : xx_H} {b a o t : Nat} {f g Af0 Bf0 Wf0 Cf0 Df0 Af1 Bf1 Wf1 Cf1 Df1 : Nat → Int32} {u4 u5 u6 u7 u8 u9 u10 u11 u12 u13 u14 u15 u16 u17 : Value} {x0 y0 m0 e0 x1 y1 m1 e1 : Int32} (ho1 : 1 ≤ o) (ho : o ≤ 6) (ht1 : 1 ≤ t) (ht6 : t ≤ 6) (hba : b < a) (hb : A.2 b = xx_o 8 [.ref a, .ref (a + 1), .ref (a + 10), .ref (a + 17), u4, u5, u6, u7, u8, u9, u10, u11, u12, u13, u14, u15, u16, u17]) (hk : A.2 a = xx_i 2 f) (gp : A.2 (a + 1) = xx_r 14 2 (va_up (va_up (fun _ => none) (0 : Int32).toNatClampNeg (some (a + 2))) (1 : Int32).toNatClampNeg (some (a + 6)))) (gt : A.2 (a + 10) = xx_r 16 2 (va_up (va_up (fun _ => none) (0 : Int32).toNatClampNeg (some (a + 11))) (1 : Int32).toNatClampNeg (some (a + 14)))) (ht : A.2 (a + 17) = xx_i 2 g) (hp0 : A.2 (a + 2) = xx_o 4 [.int x0, .int y0, .int m0, .int e0, .ref (a + 3), .ref (a + 4), .ref (a + 5)]) (qa0 : A.2 (a + 3) = xx_i 36 Af0) (qb0 : A.2 (a + 4) = xx_i 36 Bf0) (qw0 : A.2 (a + 5) = xx_i 36 Wf0) (hq0 : A.2 (a + 11) = xx_o 6 [.ref (a + 12), .ref (a + 13)]) (ra0 : A.2 (a + 12) = xx_i 6 Cf0) (rb0 : A.2 (a + 13) = xx_i 6 Df0) (hp1 : A.2 (a + 6) = xx_o 4 [.int x1, .int y1, .int m1, .int e1, .ref (a + 7), .ref (a + 8), .ref (a + 9)]) (qa1 : A.2 (a + 7) = xx_i 36 Af1) (qb1 : A.2 (a + 8) = xx_i 36 Bf1) (qw1 : A.2 (a + 9) = xx_i 36 Wf1) (hq1 : A.2 (a + 14) = xx_o 6 [.ref (a + 15), .ref (a + 16)]) (ra1 : A.2 (a + 15) = xx_i 6 Cf1) (rb1 : A.2 (a + 16) = xx_i 6 Df1) :
    xx_X G l mX8_game 3 0 0 0 (lv_args 0 [.ref b, .int (nI o), .int (nI t)]) [] A (fun r B => r = .inl none ∧ B.1 = A.1 ∧ B.2 b = xx_o 8 [.ref a, .ref (a + 1), .ref (a + 10), .ref (a + 17), u4, u5, .int 0, .int (-1), u8, u9, .int 0, .int 0, u12, u13, u14, u15, u16, u17] ∧ B.2 a = xx_i 2 (upd (upd f 0 ((nI o))) 1 ((nI t))) ∧ B.2 (a + 1) = xx_r 14 2 (va_up (va_up (fun _ => none) (0 : Int32).toNatClampNeg (some (a + 2))) (1 : Int32).toNatClampNeg (some (a + 6))) ∧ B.2 (a + 2) = xx_o 4 [.int (nI o), .int (nI t), .int 1, .int (yy_w0 t o Wf0).2, .ref (a + 3), .ref (a + 4), .ref (a + 5)] ∧ B.2 (a + 3) = xx_i 36 (fun _ => 0) ∧ B.2 (a + 4) = xx_i 36 (fun _ => 1) ∧ B.2 (a + 5) = xx_i 36 (yy_w0 t o Wf0).1 ∧ B.2 (a + 6) = xx_o 4 [.int (nI t), .int (nI o), .int 1, .int (yy_w0 o t Wf1).2, .ref (a + 7), .ref (a + 8), .ref (a + 9)] ∧ B.2 (a + 7) = xx_i 36 (fun _ => 0) ∧ B.2 (a + 8) = xx_i 36 (fun _ => 1) ∧ B.2 (a + 9) = xx_i 36 (yy_w0 o t Wf1).1 ∧ B.2 (a + 10) = xx_r 16 2 (va_up (va_up (fun _ => none) (0 : Int32).toNatClampNeg (some (a + 11))) (1 : Int32).toNatClampNeg (some (a + 14))) ∧ B.2 (a + 11) = xx_o 6 [.ref (a + 12), .ref (a + 13)] ∧ B.2 (a + 12) = xx_i 6 (fun _ => 0) ∧ B.2 (a + 13) = xx_i 6 (fun _ => 1) ∧ B.2 (a + 14) = xx_o 6 [.ref (a + 15), .ref (a + 16)] ∧ B.2 (a + 15) = xx_i 6 (fun _ => 0) ∧ B.2 (a + 16) = xx_i 6 (fun _ => 1) ∧ B.2 (a + 17) = xx_i 2 (upd (upd g 0 ((1 <<< (nI o &&& 31)) - 1)) 1 ((1 <<< (nI t &&& 31)) - 1)) ∧ ∀ q, q ≠ b → ¬ (a ≤ q ∧ q < a + 18) → B.2 q = A.2 q) := by
  refine xx_clv (lv2 := [(0, .ref b), (1, .int (nI o)), (2, .int (nI t))]) rfl ?_
  refine xx_iload_n dX8_game_0 rfl ?_
  refine xx_iconst (v := 1) dX8_game_1 (by decide) ?_
  refine xx_icmp_lt (tgt := 22) dX8_game_2 (by decide) (fun h => absurd h (nI_nlt (b := 1) (by omega) (by omega))) (fun j2 => ?_)
  refine xx_iload_n dX8_game_5 rfl ?_
  refine xx_bipush (v := 6) dX8_game_6 (by decide) ?_
  refine xx_icmp_gt (tgt := 22) dX8_game_8 (by decide) (fun h => absurd h (nI_nlt (a := 6) (by omega) (by omega))) (fun j8 => ?_)
  refine xx_iload_n dX8_game_11 rfl ?_
  refine xx_iconst (v := 1) dX8_game_12 (by decide) ?_
  refine xx_icmp_lt (tgt := 22) dX8_game_13 (by decide) (fun h => absurd h (nI_nlt (b := 1) (by omega) (by omega))) (fun j13 => ?_)
  refine xx_iload_n dX8_game_16 rfl ?_
  refine xx_bipush (v := 6) dX8_game_17 (by decide) ?_
  refine xx_icmp_le (tgt := 32) dX8_game_19 (by decide) (fun j19 => ?_) (fun h => absurd (nI_le (b := 6) (by omega) (by omega)) h)
  refine xx_aload_n dX8_game_32 rfl ?_
  refine xx_get xx_c8 dX8_game_33 wf_X8_7 (j := 0) (by decide) hb rfl ?_
  refine xx_iconst (v := 0) dX8_game_36 (by decide) ?_
  refine xx_iload_n dX8_game_37 rfl ?_
  refine xx_iast dX8_game_38 hk (by unfold vp_in; decide) (xx_gu fun A1 z1 h1 o1 => ?_)
  have h1 : A1.2 a = xx_i 2 (upd f 0 ((nI o))) := h1
  have hb_1 := (o1 b (by omega)).trans hb
  have ht_1 := (o1 (a + 17) (by omega)).trans ht
  have gp_1 := (o1 (a + 1) (by omega)).trans gp
  have gt_1 := (o1 (a + 10) (by omega)).trans gt
  have hp0_1 := (o1 (a + 2) (by omega)).trans hp0
  have qa0_1 := (o1 (a + 3) (by omega)).trans qa0
  have qb0_1 := (o1 (a + 4) (by omega)).trans qb0
  have qw0_1 := (o1 (a + 5) (by omega)).trans qw0
  have hq0_1 := (o1 (a + 11) (by omega)).trans hq0
  have ra0_1 := (o1 (a + 12) (by omega)).trans ra0
  have rb0_1 := (o1 (a + 13) (by omega)).trans rb0
  have hp1_1 := (o1 (a + 6) (by omega)).trans hp1
  have qa1_1 := (o1 (a + 7) (by omega)).trans qa1
  have qb1_1 := (o1 (a + 8) (by omega)).trans qb1
  have qw1_1 := (o1 (a + 9) (by omega)).trans qw1
  have hq1_1 := (o1 (a + 14) (by omega)).trans hq1
  have ra1_1 := (o1 (a + 15) (by omega)).trans ra1
  have rb1_1 := (o1 (a + 16) (by omega)).trans rb1
  refine xx_aload_n dX8_game_39 rfl ?_
  refine xx_get xx_c8 dX8_game_40 wf_X8_7 (j := 0) (by decide) hb_1 rfl ?_
  refine xx_iconst (v := 1) dX8_game_43 (by decide) ?_
  refine xx_iload_n dX8_game_44 rfl ?_
  refine xx_iast dX8_game_45 h1 (by unfold vp_in; decide) (xx_gu fun A2 z2 h2 o2 => ?_)
  have h2 : A2.2 a = xx_i 2 (upd (upd f 0 ((nI o))) 1 ((nI t))) := h2
  have hb_2 := (o2 b (by omega)).trans hb_1
  have ht_2 := (o2 (a + 17) (by omega)).trans ht_1
  have gp_2 := (o2 (a + 1) (by omega)).trans gp_1
  have gt_2 := (o2 (a + 10) (by omega)).trans gt_1
  have hp0_2 := (o2 (a + 2) (by omega)).trans hp0_1
  have qa0_2 := (o2 (a + 3) (by omega)).trans qa0_1
  have qb0_2 := (o2 (a + 4) (by omega)).trans qb0_1
  have qw0_2 := (o2 (a + 5) (by omega)).trans qw0_1
  have hq0_2 := (o2 (a + 11) (by omega)).trans hq0_1
  have ra0_2 := (o2 (a + 12) (by omega)).trans ra0_1
  have rb0_2 := (o2 (a + 13) (by omega)).trans rb0_1
  have hp1_2 := (o2 (a + 6) (by omega)).trans hp1_1
  have qa1_2 := (o2 (a + 7) (by omega)).trans qa1_1
  have qb1_2 := (o2 (a + 8) (by omega)).trans qb1_1
  have qw1_2 := (o2 (a + 9) (by omega)).trans qw1_1
  have hq1_2 := (o2 (a + 14) (by omega)).trans hq1_1
  have ra1_2 := (o2 (a + 15) (by omega)).trans ra1_1
  have rb1_2 := (o2 (a + 16) (by omega)).trans rb1_1
  refine xx_iconst (v := 0) dX8_game_46 (by decide) ?_
  refine xx_istore_n dX8_game_47 (by decide) ?_
  refine xx_clv (lv2 := [(0, .ref b), (1, .int (nI o)), (2, .int (nI t)), (3, .int 0)]) rfl ?_
  refine xx_iload_n dX8_game_48 rfl ?_
  refine xx_iconst (v := 2) dX8_game_49 (by decide) ?_
  refine xx_icmp_ge (tgt := 91) dX8_game_50 (by decide) (fun h => absurd h (by decide)) (fun j50 => ?_)
  refine xx_aload_n dX8_game_53 rfl ?_
  refine xx_get xx_c8 dX8_game_54 wf_X8_16 (j := 1) (by decide) hb_2 rfl ?_
  refine xx_iload_n dX8_game_57 rfl ?_
  refine xx_aald (kd := 14) (b := a + 2) dX8_game_58 (by decide) rfl gp_2 (by unfold vp_in; decide) rfl ?_
  refine xx_aload_n dX8_game_59 rfl ?_
  refine xx_get xx_c8 dX8_game_60 wf_X8_7 (j := 0) (by decide) hb_2 rfl ?_
  refine xx_iload_n dX8_game_63 rfl ?_
  refine xx_iald dX8_game_64 h2 (by unfold vp_in; decide) ?_
  refine xx_eqi (y := (nI o)) rfl ?_
  refine xx_aload_n dX8_game_65 rfl ?_
  refine xx_get xx_c8 dX8_game_66 wf_X8_7 (j := 0) (by decide) hb_2 rfl ?_
  refine xx_iconst (v := 1) dX8_game_69 (by decide) ?_
  refine xx_iload_n dX8_game_70 rfl ?_
  refine xx_isub dX8_game_71 ?_
  refine xx_eqi (y := 1) (by decide) ?_
  refine xx_iald dX8_game_72 h2 (by unfold vp_in; decide) ?_
  refine xx_eqi (y := (nI t)) rfl ?_
  refine xx_callV (N := mX4_reset) (vs := [.int (nI o), .int (nI t)]) (b := a + 2) (rest := []) (d2 := 2) (c2 := 0) (s2 := 0) (c3 := 0) (s3 := 0) dX8_game_73 wm_X8_109 wi_X4_reset wv_X4_reset (k := 4) rfl (by decide) hp0_2 nX4_reset ⟨pX4_reset, Nat.le_of_ble_eq_true rfl, by decide, Nat.le_of_ble_eq_true rfl, by decide, by decide⟩ (c_X4_reset (by omega) (by omega) (by omega) (by omega) (by omega) hp0_2 qa0_2 qb0_2 qw0_2) (fun v A3 hC => ?_) (fun E A3 hC => absurd hC.1 (by simp))
  obtain ⟨hv, z3, ka3, kb3, kc3, kd3, fr3⟩ := hC
  cases hv
  have hb_3 := (fr3 b (by omega) (by omega) (by omega) (by omega)).trans hb_2
  have h2_3 := (fr3 a (by omega) (by omega) (by omega) (by omega)).trans h2
  have ht_3 := (fr3 (a + 17) (by omega) (by omega) (by omega) (by omega)).trans ht_2
  have gp_3 := (fr3 (a + 1) (by omega) (by omega) (by omega) (by omega)).trans gp_2
  have gt_3 := (fr3 (a + 10) (by omega) (by omega) (by omega) (by omega)).trans gt_2
  have hq0_3 := (fr3 (a + 11) (by omega) (by omega) (by omega) (by omega)).trans hq0_2
  have ra0_3 := (fr3 (a + 12) (by omega) (by omega) (by omega) (by omega)).trans ra0_2
  have rb0_3 := (fr3 (a + 13) (by omega) (by omega) (by omega) (by omega)).trans rb0_2
  have hp1_3 := (fr3 (a + 6) (by omega) (by omega) (by omega) (by omega)).trans hp1_2
  have qa1_3 := (fr3 (a + 7) (by omega) (by omega) (by omega) (by omega)).trans qa1_2
  have qb1_3 := (fr3 (a + 8) (by omega) (by omega) (by omega) (by omega)).trans qb1_2
  have qw1_3 := (fr3 (a + 9) (by omega) (by omega) (by omega) (by omega)).trans qw1_2
  have hq1_3 := (fr3 (a + 14) (by omega) (by omega) (by omega) (by omega)).trans hq1_2
  have ra1_3 := (fr3 (a + 15) (by omega) (by omega) (by omega) (by omega)).trans ra1_2
  have rb1_3 := (fr3 (a + 16) (by omega) (by omega) (by omega) (by omega)).trans rb1_2
  refine xx_cst (st2 := []) rfl ?_
  refine xx_aload_n dX8_game_76 rfl ?_
  refine xx_get xx_c8 dX8_game_77 wf_X8_23 (j := 2) (by decide) hb_3 rfl ?_
  refine xx_iload_n dX8_game_80 rfl ?_
  refine xx_aald (kd := 16) (b := a + 11) dX8_game_81 (by decide) rfl gt_3 (by unfold vp_in; decide) rfl ?_
  refine xx_callV (N := mX6_reset) (vs := []) (b := a + 11) (rest := []) (d2 := 1) (c2 := 0) (s2 := 0) (c3 := 0) (s3 := 0) dX8_game_82 wm_X8_113 wi_X6_reset wv_X6_reset (k := 6) rfl (by decide) hq0_3 nX6_reset ⟨pX6_reset, Nat.le_of_ble_eq_true rfl, by decide, Nat.le_of_ble_eq_true rfl, by decide, by decide⟩ (c_X6_reset (by omega) hq0_3 ra0_3 rb0_3) (fun v A4 hC => ?_) (fun E A4 hC => absurd hC.1 (by simp))
  obtain ⟨hv, z4, ka4, kb4, fr4⟩ := hC
  cases hv
  have hb_4 := (fr4 b (by omega) (by omega)).trans hb_3
  have h2_4 := (fr4 a (by omega) (by omega)).trans h2_3
  have ht_4 := (fr4 (a + 17) (by omega) (by omega)).trans ht_3
  have gp_4 := (fr4 (a + 1) (by omega) (by omega)).trans gp_3
  have gt_4 := (fr4 (a + 10) (by omega) (by omega)).trans gt_3
  have ka3_4 := (fr4 (a + 2) (by omega) (by omega)).trans ka3
  have kb3_4 := (fr4 (a + 3) (by omega) (by omega)).trans kb3
  have kc3_4 := (fr4 (a + 4) (by omega) (by omega)).trans kc3
  have kd3_4 := (fr4 (a + 5) (by omega) (by omega)).trans kd3
  have hq0_4 := (fr4 (a + 11) (by omega) (by omega)).trans hq0_3
  have hp1_4 := (fr4 (a + 6) (by omega) (by omega)).trans hp1_3
  have qa1_4 := (fr4 (a + 7) (by omega) (by omega)).trans qa1_3
  have qb1_4 := (fr4 (a + 8) (by omega) (by omega)).trans qb1_3
  have qw1_4 := (fr4 (a + 9) (by omega) (by omega)).trans qw1_3
  have hq1_4 := (fr4 (a + 14) (by omega) (by omega)).trans hq1_3
  have ra1_4 := (fr4 (a + 15) (by omega) (by omega)).trans ra1_3
  have rb1_4 := (fr4 (a + 16) (by omega) (by omega)).trans rb1_3
  refine xx_cst (st2 := []) rfl ?_
  refine xx_iinc (v := 1) dX8_game_85 rfl (by decide) (by decide) ?_
  refine xx_clv (lv2 := [(0, .ref b), (1, .int (nI o)), (2, .int (nI t)), (3, .int 1)]) rfl ?_
  refine xx_goto (tgt := 48) dX8_game_88 (by decide) ?_
  refine xx_iload_n dX8_game_48 rfl ?_
  refine xx_iconst (v := 2) dX8_game_49 (by decide) ?_
  refine xx_icmp_ge (tgt := 91) dX8_game_50 (by decide) (fun h => absurd h (by decide)) (fun j50 => ?_)
  refine xx_aload_n dX8_game_53 rfl ?_
  refine xx_get xx_c8 dX8_game_54 wf_X8_16 (j := 1) (by decide) hb_4 rfl ?_
  refine xx_iload_n dX8_game_57 rfl ?_
  refine xx_aald (kd := 14) (b := a + 6) dX8_game_58 (by decide) rfl gp_4 (by unfold vp_in; decide) rfl ?_
  refine xx_aload_n dX8_game_59 rfl ?_
  refine xx_get xx_c8 dX8_game_60 wf_X8_7 (j := 0) (by decide) hb_4 rfl ?_
  refine xx_iload_n dX8_game_63 rfl ?_
  refine xx_iald dX8_game_64 h2_4 (by unfold vp_in; decide) ?_
  refine xx_eqi (y := (nI t)) rfl ?_
  refine xx_aload_n dX8_game_65 rfl ?_
  refine xx_get xx_c8 dX8_game_66 wf_X8_7 (j := 0) (by decide) hb_4 rfl ?_
  refine xx_iconst (v := 1) dX8_game_69 (by decide) ?_
  refine xx_iload_n dX8_game_70 rfl ?_
  refine xx_isub dX8_game_71 ?_
  refine xx_eqi (y := 0) (by decide) ?_
  refine xx_iald dX8_game_72 h2_4 (by unfold vp_in; decide) ?_
  refine xx_eqi (y := (nI o)) rfl ?_
  refine xx_callV (N := mX4_reset) (vs := [.int (nI t), .int (nI o)]) (b := a + 6) (rest := []) (d2 := 2) (c2 := 0) (s2 := 0) (c3 := 0) (s3 := 0) dX8_game_73 wm_X8_109 wi_X4_reset wv_X4_reset (k := 4) rfl (by decide) hp1_4 nX4_reset ⟨pX4_reset, Nat.le_of_ble_eq_true rfl, by decide, Nat.le_of_ble_eq_true rfl, by decide, by decide⟩ (c_X4_reset (by omega) (by omega) (by omega) (by omega) (by omega) hp1_4 qa1_4 qb1_4 qw1_4) (fun v A5 hC => ?_) (fun E A5 hC => absurd hC.1 (by simp))
  obtain ⟨hv, z5, ka5, kb5, kc5, kd5, fr5⟩ := hC
  cases hv
  have hb_5 := (fr5 b (by omega) (by omega) (by omega) (by omega)).trans hb_4
  have h2_5 := (fr5 a (by omega) (by omega) (by omega) (by omega)).trans h2_4
  have ht_5 := (fr5 (a + 17) (by omega) (by omega) (by omega) (by omega)).trans ht_4
  have gp_5 := (fr5 (a + 1) (by omega) (by omega) (by omega) (by omega)).trans gp_4
  have gt_5 := (fr5 (a + 10) (by omega) (by omega) (by omega) (by omega)).trans gt_4
  have ka3_5 := (fr5 (a + 2) (by omega) (by omega) (by omega) (by omega)).trans ka3_4
  have kb3_5 := (fr5 (a + 3) (by omega) (by omega) (by omega) (by omega)).trans kb3_4
  have kc3_5 := (fr5 (a + 4) (by omega) (by omega) (by omega) (by omega)).trans kc3_4
  have kd3_5 := (fr5 (a + 5) (by omega) (by omega) (by omega) (by omega)).trans kd3_4
  have hq0_5 := (fr5 (a + 11) (by omega) (by omega) (by omega) (by omega)).trans hq0_4
  have ka4_5 := (fr5 (a + 12) (by omega) (by omega) (by omega) (by omega)).trans ka4
  have kb4_5 := (fr5 (a + 13) (by omega) (by omega) (by omega) (by omega)).trans kb4
  have hq1_5 := (fr5 (a + 14) (by omega) (by omega) (by omega) (by omega)).trans hq1_4
  have ra1_5 := (fr5 (a + 15) (by omega) (by omega) (by omega) (by omega)).trans ra1_4
  have rb1_5 := (fr5 (a + 16) (by omega) (by omega) (by omega) (by omega)).trans rb1_4
  refine xx_cst (st2 := []) rfl ?_
  refine xx_aload_n dX8_game_76 rfl ?_
  refine xx_get xx_c8 dX8_game_77 wf_X8_23 (j := 2) (by decide) hb_5 rfl ?_
  refine xx_iload_n dX8_game_80 rfl ?_
  refine xx_aald (kd := 16) (b := a + 14) dX8_game_81 (by decide) rfl gt_5 (by unfold vp_in; decide) rfl ?_
  refine xx_callV (N := mX6_reset) (vs := []) (b := a + 14) (rest := []) (d2 := 1) (c2 := 0) (s2 := 0) (c3 := 0) (s3 := 0) dX8_game_82 wm_X8_113 wi_X6_reset wv_X6_reset (k := 6) rfl (by decide) hq1_5 nX6_reset ⟨pX6_reset, Nat.le_of_ble_eq_true rfl, by decide, Nat.le_of_ble_eq_true rfl, by decide, by decide⟩ (c_X6_reset (by omega) hq1_5 ra1_5 rb1_5) (fun v A6 hC => ?_) (fun E A6 hC => absurd hC.1 (by simp))
  obtain ⟨hv, z6, ka6, kb6, fr6⟩ := hC
  cases hv
  have hb_6 := (fr6 b (by omega) (by omega)).trans hb_5
  have h2_6 := (fr6 a (by omega) (by omega)).trans h2_5
  have ht_6 := (fr6 (a + 17) (by omega) (by omega)).trans ht_5
  have gp_6 := (fr6 (a + 1) (by omega) (by omega)).trans gp_5
  have gt_6 := (fr6 (a + 10) (by omega) (by omega)).trans gt_5
  have ka3_6 := (fr6 (a + 2) (by omega) (by omega)).trans ka3_5
  have kb3_6 := (fr6 (a + 3) (by omega) (by omega)).trans kb3_5
  have kc3_6 := (fr6 (a + 4) (by omega) (by omega)).trans kc3_5
  have kd3_6 := (fr6 (a + 5) (by omega) (by omega)).trans kd3_5
  have hq0_6 := (fr6 (a + 11) (by omega) (by omega)).trans hq0_5
  have ka4_6 := (fr6 (a + 12) (by omega) (by omega)).trans ka4_5
  have kb4_6 := (fr6 (a + 13) (by omega) (by omega)).trans kb4_5
  have ka5_6 := (fr6 (a + 6) (by omega) (by omega)).trans ka5
  have kb5_6 := (fr6 (a + 7) (by omega) (by omega)).trans kb5
  have kc5_6 := (fr6 (a + 8) (by omega) (by omega)).trans kc5
  have kd5_6 := (fr6 (a + 9) (by omega) (by omega)).trans kd5
  have hq1_6 := (fr6 (a + 14) (by omega) (by omega)).trans hq1_5
  refine xx_cst (st2 := []) rfl ?_
  refine xx_iinc (v := 2) dX8_game_85 rfl (by decide) (by decide) ?_
  refine xx_clv (lv2 := [(0, .ref b), (1, .int (nI o)), (2, .int (nI t)), (3, .int 2)]) rfl ?_
  refine xx_goto (tgt := 48) dX8_game_88 (by decide) ?_
  refine xx_iload_n dX8_game_48 rfl ?_
  refine xx_iconst (v := 2) dX8_game_49 (by decide) ?_
  refine xx_icmp_ge (tgt := 91) dX8_game_50 (by decide) (fun j50 => ?_) (fun h => absurd (by decide) h)
  refine xx_aload_n dX8_game_91 rfl ?_
  refine xx_callV (N := mX8_forget) (vs := []) (b := b) (rest := []) (d2 := 0) (c2 := 0) (s2 := 0) (c3 := 0) (s3 := 0) dX8_game_92 wm_X8_115 wi_X8_forget wv_X8_forget (k := 8) rfl (by decide) hb_6 nX8_forget ⟨pX8_forget, Nat.le_of_ble_eq_true rfl, by decide, Nat.le_of_ble_eq_true rfl, by decide, by decide⟩ (c_X8_forget (by omega) hb_6 h2_6 ht_6) (fun v A7 hC => ?_) (fun E A7 hC => absurd hC.1 (by simp))
  obtain ⟨hv, z7, ka7, kb7, fr7⟩ := hC
  cases hv
  have h2_7 := (fr7 a (by omega) (by omega)).trans h2_6
  have gp_7 := (fr7 (a + 1) (by omega) (by omega)).trans gp_6
  have gt_7 := (fr7 (a + 10) (by omega) (by omega)).trans gt_6
  have ka3_7 := (fr7 (a + 2) (by omega) (by omega)).trans ka3_6
  have kb3_7 := (fr7 (a + 3) (by omega) (by omega)).trans kb3_6
  have kc3_7 := (fr7 (a + 4) (by omega) (by omega)).trans kc3_6
  have kd3_7 := (fr7 (a + 5) (by omega) (by omega)).trans kd3_6
  have hq0_7 := (fr7 (a + 11) (by omega) (by omega)).trans hq0_6
  have ka4_7 := (fr7 (a + 12) (by omega) (by omega)).trans ka4_6
  have kb4_7 := (fr7 (a + 13) (by omega) (by omega)).trans kb4_6
  have ka5_7 := (fr7 (a + 6) (by omega) (by omega)).trans ka5_6
  have kb5_7 := (fr7 (a + 7) (by omega) (by omega)).trans kb5_6
  have kc5_7 := (fr7 (a + 8) (by omega) (by omega)).trans kc5_6
  have kd5_7 := (fr7 (a + 9) (by omega) (by omega)).trans kd5_6
  have hq1_7 := (fr7 (a + 14) (by omega) (by omega)).trans hq1_6
  have ka6_7 := (fr7 (a + 15) (by omega) (by omega)).trans ka6
  have kb6_7 := (fr7 (a + 16) (by omega) (by omega)).trans kb6
  refine xx_cst (st2 := []) rfl ?_
  exact xx_vret dX8_game_95 rfl ⟨rfl, by omega, ka7, h2_7, gp_7, ka3_7, kb3_7, kc3_7, kd3_7, ka5_7, kb5_7, kc5_7, kd5_7, gt_7, hq0_7, ka4_7, kb4_7, hq1_7, ka6_7, kb6_7, kb7, fun q h1 h2 => by rw [fr7 q (by omega) (by omega), fr6 q (by omega) (by omega), fr5 q (by omega) (by omega) (by omega) (by omega), fr4 q (by omega) (by omega), fr3 q (by omega) (by omega) (by omega) (by omega), o2 q (by omega), o1 q (by omega)]⟩
set_option maxRecDepth 100000 in
theorem c_X9_gameK {G : xx_G} {l : Launch} {A : xx_H} {c a o t : Nat} {u0 u10 u11 u15 u16 u27 : Value} {m0 n0 : Int32} {f3 f4 f5 f6 th : Nat → Int32} {mu wh le : Nat → Int64} (hc : c < a) (ho1 : 1 ≤ o) (ho : o ≤ 6) (ht1 : 1 ≤ t) (ht : t ≤ 6) (hb : A.2 c = xx_o 9 [u0, .ref a, .ref (a + 1), .ref (a + 2), .int m0, .int n0, .ref (a + 3), .ref (a + 4), .ref (a + 5), .ref (a + 6), u10, u11, .ref (a + 7), .ref (a + 8), .ref (a + 9), u15, u16, .ref (a + 10), .ref (a + 11), .ref (a + 12), .ref (a + 13), .ref (a + 14), .ref (a + 15), .ref (a + 16), .ref (a + 17), .ref (a + 18), .ref (a + 19), u27, .ref (a + 20)]) (gh3 : A.2 (a + 3) = xx_i 72 f3) (gh4 : A.2 (a + 4) = xx_i 72 f4) (gh5 : A.2 (a + 5) = xx_i 12 f5) (gh6 : A.2 (a + 6) = xx_i 12 f6) (ghth : A.2 (a + 12) = xx_z 12 th) (ghmu : A.2 (a + 13) = xx_l 2 mu) (ghwh : A.2 (a + 14) = xx_l 72 wh) (ghle : A.2 (a + 15) = xx_l 2 le) :
    xx_X G l mX9_game 2 0 0 0 (lv_args 0 [.ref c, .int (nI o), .int (nI t)]) [] A (fun r B => r = .inl none ∧ B.1 = A.1 ∧ B.2 c = xx_o 9 [.int 0, .ref a, .ref (a + 1), .ref (a + 2), .int (nI o), .int (nI t), .ref (a + 3), .ref (a + 4), .ref (a + 5), .ref (a + 6), .int (-1), .int 0, .ref (a + 7), .ref (a + 8), .ref (a + 9), .int 0, .int 0, .ref (a + 10), .ref (a + 11), .ref (a + 12), .ref (a + 13), .ref (a + 14), .ref (a + 15), .ref (a + 16), .ref (a + 17), .ref (a + 18), .ref (a + 19), u27, .ref (a + 20)] ∧ B.2 (a + 3) = xx_i 72 (fun _ => 0) ∧ B.2 (a + 4) = xx_i 72 (fun _ => 1) ∧ B.2 (a + 5) = xx_i 12 (fun _ => 0) ∧ B.2 (a + 6) = xx_i 12 (fun _ => 1) ∧ B.2 (a + 12) = xx_z 12 (fun _ => 1) ∧ B.2 (a + 13) = xx_l 2 (vp_updL (vp_updL mu 0 1) 1 1) ∧ B.2 (a + 14) = xx_l 72 (yy_s1 t o wh).1 ∧ B.2 (a + 15) = xx_l 2 (vp_updL (vp_updL le 0 (yy_s0 t o wh).2) 1 (yy_s1 t o wh).2) ∧ ∀ q, q ≠ c → q ≠ a + 3 → q ≠ a + 4 → q ≠ a + 5 → q ≠ a + 6 → q ≠ a + 12 → q ≠ a + 13 → q ≠ a + 14 → q ≠ a + 15 → B.2 q = A.2 q) := by
  have i1 : ∀ k : Nat, 1 ≤ k → k ≤ 6 → xx_inn (nI k) 1 6 = 1 := by
    intro k k1 k2
    have : ∀ k : Nat, k < 7 → 1 ≤ k → xx_inn (nI k) 1 6 = 1 := by decide
    exact this k (by omega) k1
  refine xx_clv (lv2 := [(0, .ref c), (1, .int (nI o)), (2, .int (nI t))]) rfl ?_
  refine xx_aload_n dX9_game_0 rfl ?_
  refine xx_iload_n dX9_game_1 rfl ?_
  refine xx_iconst (v := 1) dX9_game_2 (by decide) ?_
  refine xx_bipush (v := 6) dX9_game_3 (by decide) ?_
  refine xx_callS (N := mX9_in) (vs := [.int (nI o), .int 1, .int 6]) (rest := [.ref c]) (d2 := 0) (c2 := 0) (s2 := 0) (c3 := 0) (s3 := 0) dX9_game_5 wm_X9_116 ws_X9_in wz_X9 (by decide) nX9_in ⟨pX9_in, Nat.le_of_ble_eq_true rfl, by decide, Nat.le_of_ble_eq_true rfl, by decide, by decide⟩ c_X9_in (fun v B hC => ?_) (fun E B hC => absurd hC.1 (by simp))
  obtain ⟨hv, rfl⟩ := hC
  cases hv
  refine xx_cst (st2 := [.int (xx_inn (nI o) 1 6), .ref c]) rfl ?_
  refine xx_eqi (y := 1) (i1 o (by omega) (by omega)) ?_
  refine xx_if_eq (tgt := 25) dX9_game_8 (by decide) (fun h => absurd h (by decide)) (fun j8 => ?_)
  refine xx_iload_n dX9_game_11 rfl ?_
  refine xx_iconst (v := 1) dX9_game_12 (by decide) ?_
  refine xx_bipush (v := 6) dX9_game_13 (by decide) ?_
  refine xx_callS (N := mX9_in) (vs := [.int (nI t), .int 1, .int 6]) (rest := [.ref c]) (d2 := 0) (c2 := 0) (s2 := 0) (c3 := 0) (s3 := 0) dX9_game_15 wm_X9_116 ws_X9_in wz_X9 (by decide) nX9_in ⟨pX9_in, Nat.le_of_ble_eq_true rfl, by decide, Nat.le_of_ble_eq_true rfl, by decide, by decide⟩ c_X9_in (fun v B hC => ?_) (fun E B hC => absurd hC.1 (by simp))
  obtain ⟨hv, rfl⟩ := hC
  cases hv
  refine xx_cst (st2 := [.int (xx_inn (nI t) 1 6), .ref c]) rfl ?_
  refine xx_eqi (y := 1) (i1 t (by omega) (by omega)) ?_
  refine xx_if_eq (tgt := 25) dX9_game_18 (by decide) (fun h => absurd h (by decide)) (fun j18 => ?_)
  refine xx_iconst (v := 0) dX9_game_21 (by decide) ?_
  refine xx_goto (tgt := 26) dX9_game_22 (by decide) ?_
  refine xx_put xx_c9 dX9_game_26 wf_X9_84 (j := 0) (by decide) rfl rfl rfl hb (Nat.le_of_ble_eq_true rfl) (xx_gu fun A1 z1 h1 o1 => ?_)
  have h1 : A1.2 c = xx_o 9 [.int 0, .ref a, .ref (a + 1), .ref (a + 2), .int m0, .int n0, .ref (a + 3), .ref (a + 4), .ref (a + 5), .ref (a + 6), u10, u11, .ref (a + 7), .ref (a + 8), .ref (a + 9), u15, u16, .ref (a + 10), .ref (a + 11), .ref (a + 12), .ref (a + 13), .ref (a + 14), .ref (a + 15), .ref (a + 16), .ref (a + 17), .ref (a + 18), .ref (a + 19), u27, .ref (a + 20)] := h1
  have gh3_1 := (o1 (a + 3) (by omega)).trans gh3
  have gh4_1 := (o1 (a + 4) (by omega)).trans gh4
  have gh5_1 := (o1 (a + 5) (by omega)).trans gh5
  have gh6_1 := (o1 (a + 6) (by omega)).trans gh6
  have ghth_1 := (o1 (a + 12) (by omega)).trans ghth
  have ghmu_1 := (o1 (a + 13) (by omega)).trans ghmu
  have ghwh_1 := (o1 (a + 14) (by omega)).trans ghwh
  have ghle_1 := (o1 (a + 15) (by omega)).trans ghle
  refine xx_aload_n dX9_game_29 rfl ?_
  refine xx_get xx_c9 dX9_game_30 wf_X9_84 (j := 0) (by decide) h1 rfl ?_
  refine xx_if_le (tgt := 37) dX9_game_33 (by decide) (fun j33 => ?_) (fun h => absurd (by decide) h)
  refine xx_aload_n dX9_game_37 rfl ?_
  refine xx_iload_n dX9_game_38 rfl ?_
  refine xx_put xx_c9 dX9_game_39 wf_X9_120 (j := 4) (by decide) rfl rfl rfl h1 (Nat.le_of_ble_eq_true rfl) (xx_gu fun A2 z2 h2 o2 => ?_)
  have h2 : A2.2 c = xx_o 9 [.int 0, .ref a, .ref (a + 1), .ref (a + 2), .int (nI o), .int n0, .ref (a + 3), .ref (a + 4), .ref (a + 5), .ref (a + 6), u10, u11, .ref (a + 7), .ref (a + 8), .ref (a + 9), u15, u16, .ref (a + 10), .ref (a + 11), .ref (a + 12), .ref (a + 13), .ref (a + 14), .ref (a + 15), .ref (a + 16), .ref (a + 17), .ref (a + 18), .ref (a + 19), u27, .ref (a + 20)] := h2
  have gh3_2 := (o2 (a + 3) (by omega)).trans gh3_1
  have gh4_2 := (o2 (a + 4) (by omega)).trans gh4_1
  have gh5_2 := (o2 (a + 5) (by omega)).trans gh5_1
  have gh6_2 := (o2 (a + 6) (by omega)).trans gh6_1
  have ghth_2 := (o2 (a + 12) (by omega)).trans ghth_1
  have ghmu_2 := (o2 (a + 13) (by omega)).trans ghmu_1
  have ghwh_2 := (o2 (a + 14) (by omega)).trans ghwh_1
  have ghle_2 := (o2 (a + 15) (by omega)).trans ghle_1
  refine xx_aload_n dX9_game_42 rfl ?_
  refine xx_iload_n dX9_game_43 rfl ?_
  refine xx_put xx_c9 dX9_game_44 wf_X9_123 (j := 5) (by decide) rfl rfl rfl h2 (Nat.le_of_ble_eq_true rfl) (xx_gu fun A3 z3 h3 o3 => ?_)
  have h3 : A3.2 c = xx_o 9 [.int 0, .ref a, .ref (a + 1), .ref (a + 2), .int (nI o), .int (nI t), .ref (a + 3), .ref (a + 4), .ref (a + 5), .ref (a + 6), u10, u11, .ref (a + 7), .ref (a + 8), .ref (a + 9), u15, u16, .ref (a + 10), .ref (a + 11), .ref (a + 12), .ref (a + 13), .ref (a + 14), .ref (a + 15), .ref (a + 16), .ref (a + 17), .ref (a + 18), .ref (a + 19), u27, .ref (a + 20)] := h3
  have gh3_3 := (o3 (a + 3) (by omega)).trans gh3_2
  have gh4_3 := (o3 (a + 4) (by omega)).trans gh4_2
  have gh5_3 := (o3 (a + 5) (by omega)).trans gh5_2
  have gh6_3 := (o3 (a + 6) (by omega)).trans gh6_2
  have ghth_3 := (o3 (a + 12) (by omega)).trans ghth_2
  have ghmu_3 := (o3 (a + 13) (by omega)).trans ghmu_2
  have ghwh_3 := (o3 (a + 14) (by omega)).trans ghwh_2
  have ghle_3 := (o3 (a + 15) (by omega)).trans ghle_2
  refine xx_iconst (v := 0) dX9_game_47 (by decide) ?_
  refine xx_istore_n dX9_game_48 (by decide) ?_
  refine xx_clv (lv2 := [(0, .ref c), (1, .int (nI o)), (2, .int (nI t)), (3, .int 0)]) rfl ?_
  refine xx_clv (lv2 := [(0, .ref c), (1, .int (nI o)), (2, .int (nI t)), (3, .int (nI 0))]) rfl ?_
  refine l_X9_g1 (A := A3) hc h3 (fun A4 f4 g4 z4 h4 k4 p4 q4 o4 => ?_) 72 0 (by omega) A3 _ _ rfl gh3_3 gh4_3 (fun j hj => absurd hj (Nat.not_lt_zero j)) (fun j hj => absurd hj (Nat.not_lt_zero j)) (fun q _ _ => rfl)
  have h3_4 := (o4 c (by omega) (by omega)).trans h3
  have gh5_4 := (o4 (a + 5) (by omega) (by omega)).trans gh5_3
  have gh6_4 := (o4 (a + 6) (by omega) (by omega)).trans gh6_3
  have ghth_4 := (o4 (a + 12) (by omega) (by omega)).trans ghth_3
  have ghmu_4 := (o4 (a + 13) (by omega) (by omega)).trans ghmu_3
  have ghwh_4 := (o4 (a + 14) (by omega) (by omega)).trans ghwh_3
  have ghle_4 := (o4 (a + 15) (by omega) (by omega)).trans ghle_3
  refine xx_re (fun _ => 0) h4 p4 (fun A5 z5 h5 o5 => ?_)
  have h3_5 := (o5 c (by omega)).trans h3_4
  have k4_5 := (o5 (a + 4) (by omega)).trans k4
  have gh5_5 := (o5 (a + 5) (by omega)).trans gh5_4
  have gh6_5 := (o5 (a + 6) (by omega)).trans gh6_4
  have ghth_5 := (o5 (a + 12) (by omega)).trans ghth_4
  have ghmu_5 := (o5 (a + 13) (by omega)).trans ghmu_4
  have ghwh_5 := (o5 (a + 14) (by omega)).trans ghwh_4
  have ghle_5 := (o5 (a + 15) (by omega)).trans ghle_4
  refine xx_re (fun _ => 1) k4_5 q4 (fun A6 z6 h6 o6 => ?_)
  have h3_6 := (o6 c (by omega)).trans h3_5
  have h5_6 := (o6 (a + 3) (by omega)).trans h5
  have gh5_6 := (o6 (a + 5) (by omega)).trans gh5_5
  have gh6_6 := (o6 (a + 6) (by omega)).trans gh6_5
  have ghth_6 := (o6 (a + 12) (by omega)).trans ghth_5
  have ghmu_6 := (o6 (a + 13) (by omega)).trans ghmu_5
  have ghwh_6 := (o6 (a + 14) (by omega)).trans ghwh_5
  have ghle_6 := (o6 (a + 15) (by omega)).trans ghle_5
  refine xx_iconst (v := 0) dX9_game_75 (by decide) ?_
  refine xx_istore_n dX9_game_76 (by decide) ?_
  refine xx_clv (lv2 := [(0, .ref c), (1, .int (nI o)), (2, .int (nI t)), (3, .int 0)]) rfl ?_
  refine xx_clv (lv2 := [(0, .ref c), (1, .int (nI o)), (2, .int (nI t)), (3, .int (nI 0))]) rfl ?_
  refine l_X9_g2 (A := A6) hc h3_6 (fun A7 f7 g7 z7 h7 k7 p7 q7 o7 => ?_) 12 0 (by omega) A6 _ _ rfl gh5_6 gh6_6 (fun j hj => absurd hj (Nat.not_lt_zero j)) (fun j hj => absurd hj (Nat.not_lt_zero j)) (fun q _ _ => rfl)
  have h3_7 := (o7 c (by omega) (by omega)).trans h3_6
  have h5_7 := (o7 (a + 3) (by omega) (by omega)).trans h5_6
  have h6_7 := (o7 (a + 4) (by omega) (by omega)).trans h6
  have ghth_7 := (o7 (a + 12) (by omega) (by omega)).trans ghth_6
  have ghmu_7 := (o7 (a + 13) (by omega) (by omega)).trans ghmu_6
  have ghwh_7 := (o7 (a + 14) (by omega) (by omega)).trans ghwh_6
  have ghle_7 := (o7 (a + 15) (by omega) (by omega)).trans ghle_6
  refine xx_re (fun _ => 0) h7 p7 (fun A8 z8 h8 o8 => ?_)
  have h3_8 := (o8 c (by omega)).trans h3_7
  have h5_8 := (o8 (a + 3) (by omega)).trans h5_7
  have h6_8 := (o8 (a + 4) (by omega)).trans h6_7
  have k7_8 := (o8 (a + 6) (by omega)).trans k7
  have ghth_8 := (o8 (a + 12) (by omega)).trans ghth_7
  have ghmu_8 := (o8 (a + 13) (by omega)).trans ghmu_7
  have ghwh_8 := (o8 (a + 14) (by omega)).trans ghwh_7
  have ghle_8 := (o8 (a + 15) (by omega)).trans ghle_7
  refine xx_re (fun _ => 1) k7_8 q7 (fun A9 z9 h9 o9 => ?_)
  have h3_9 := (o9 c (by omega)).trans h3_8
  have h5_9 := (o9 (a + 3) (by omega)).trans h5_8
  have h6_9 := (o9 (a + 4) (by omega)).trans h6_8
  have h8_9 := (o9 (a + 5) (by omega)).trans h8
  have ghth_9 := (o9 (a + 12) (by omega)).trans ghth_8
  have ghmu_9 := (o9 (a + 13) (by omega)).trans ghmu_8
  have ghwh_9 := (o9 (a + 14) (by omega)).trans ghwh_8
  have ghle_9 := (o9 (a + 15) (by omega)).trans ghle_8
  refine xx_aload_n dX9_game_103 rfl ?_
  refine xx_callV (N := mX9_changed) (vs := []) (b := c) (rest := []) (d2 := 1) (c2 := 0) (s2 := 0) (c3 := 0) (s3 := 0) dX9_game_104 wm_X9_126 wi_X9_changed wv_X9_changed (k := 9) rfl (by decide) h3_9 nX9_changed ⟨pX9_changed, Nat.le_of_ble_eq_true rfl, by decide, Nat.le_of_ble_eq_true rfl, by decide, by decide⟩ (c_X9_changed hc ho ht (yy_ok01 0) (yy_ok01 1) h3_9 h5_9 h6_9 ghth_9 ghmu_9 ghwh_9 ghle_9) (fun v A10 hC => ?_) (fun E A10 hC => absurd hC.1 (by simp))
  obtain ⟨hv, z10, ka, kb, kc, kd, ke, fr10⟩ := hC
  cases hv
  rw [yy_rl01, yy_rl01] at kc ke kd
  have v3 := (fr10 (a + 3) (by omega) (by omega) (by omega) (by omega) (by omega)).trans h5_9
  have v4 := (fr10 (a + 4) (by omega) (by omega) (by omega) (by omega) (by omega)).trans h6_9
  have v5 := (fr10 (a + 5) (by omega) (by omega) (by omega) (by omega) (by omega)).trans h8_9
  have v6 := (fr10 (a + 6) (by omega) (by omega) (by omega) (by omega) (by omega)).trans h9
  refine xx_cst (st2 := []) rfl ?_
  exact xx_vret dX9_game_107 rfl ⟨rfl, by omega, ka, v3, v4, v5, v6, kb, kc, kd, ke, fun q h1 e3 e4 e5 e6 e12 e13 e14 e15 => by rw [fr10 q (by omega) (by omega) (by omega) (by omega) (by omega), o9 q (by omega), o8 q (by omega), o7 q (by omega) (by omega), o6 q (by omega), o5 q (by omega), o4 q (by omega) (by omega), o3 q (by omega), o2 q (by omega), o1 q (by omega)]⟩
