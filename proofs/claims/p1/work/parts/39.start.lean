/-! ===== the law up to its loop ===== -/
theorem xx_br0.to {B C : xx_H} {b a : Nat} (h : xx_br0 B b a) (h0 : C.2 b = B.2 b) (h1 : ∀ q, a ≤ q → q < a + 296 → C.2 q = B.2 q) : xx_br0 C b a := by
  obtain ⟨g0, g1, g2, g3, g4, g5, g6, g7, g8, g9, g10, g11, g12, g13⟩ := h
  exact ⟨h0.trans g0, g1.to (fun q h2 h3 => h1 q (by omega) (by omega)), g2.to (fun q h2 h3 => h1 q (by omega) (by omega)), g3.to (fun q h2 h3 => h1 q (by omega) (by omega)), g4.to (fun q h2 h3 => h1 q (by omega) (by omega)), g5.to (fun q h2 h3 => h1 q (by omega) (by omega)), g6.to (fun q h2 h3 => h1 q (by omega) (by omega)), g7.to (fun q h2 h3 => h1 q (by omega) (by omega)), g8.to (fun q h2 h3 => h1 q (by omega) (by omega)), g9.to (fun q h2 h3 => h1 q (by omega) (by omega)), g10.to (fun q h2 h3 => h1 q (by omega) (by omega)), g11.to (fun q h2 h3 => h1 q (by omega) (by omega)), g12.to (fun q h2 h3 => h1 q (by omega) (by omega)), g13.to (fun q h2 h3 => h1 q (by omega) (by omega))⟩
theorem xx_md0.to {B C : xx_H} {b a : Nat} (h : xx_md0 B b a) (h0 : C.2 b = B.2 b) (h1 : ∀ q, a ≤ q → q < a + 21 → C.2 q = B.2 q) : xx_md0 C b a := by
  obtain ⟨g0, g1, g2, g3, g4, g5, g6, g7, g8, g9, g10, g11, g12, g13, g14, g15, g16, g17, g18, g19, g20, g21⟩ := h
  exact ⟨h0.trans g0, (h1 _ (by omega) (by omega)).trans g1, (h1 _ (by omega) (by omega)).trans g2, (h1 _ (by omega) (by omega)).trans g3, (h1 _ (by omega) (by omega)).trans g4, (h1 _ (by omega) (by omega)).trans g5, (h1 _ (by omega) (by omega)).trans g6, (h1 _ (by omega) (by omega)).trans g7, (h1 _ (by omega) (by omega)).trans g8, (h1 _ (by omega) (by omega)).trans g9, (h1 _ (by omega) (by omega)).trans g10, (h1 _ (by omega) (by omega)).trans g11, (h1 _ (by omega) (by omega)).trans g12, (h1 _ (by omega) (by omega)).trans g13, (h1 _ (by omega) (by omega)).trans g14, (h1 _ (by omega) (by omega)).trans g15, (h1 _ (by omega) (by omega)).trans g16, (h1 _ (by omega) (by omega)).trans g17, (h1 _ (by omega) (by omega)).trans g18, (h1 _ (by omega) (by omega)).trans g19, (h1 _ (by omega) (by omega)).trans g20, (h1 _ (by omega) (by omega)).trans g21⟩
set_option maxRecDepth 100000 in
theorem k_start {G : xx_G} {l : Launch} {A : xx_H} {z L d c1 s1 : Nat} {xs : Nat → Int32} {Q : Option Value ⊕ String → xx_H → Prop} (hd : 6 ≤ d) (hs : A.2 z = xx_s L xs)
    (k : ∀ B : xx_H, B.1 = A.1 + 320 → B.2 z = xx_s L xs → z < A.1 → xx_br0 B A.1 (A.1 + 1) → xx_md0 B (A.1 + 297) (A.1 + 298) → B.2 (A.1 + 319) = xx_l 1 (fun _ => 0) → xx_X G l mL_law d c1 s1 23 (xx_lv5 z A.1 (A.1 + 297) (A.1 + 319) 0) [] B Q) :
    xx_X G l mL_law d (c1 + 320) (s1 + 80298) 0 [(0, .ref z)] [] A Q := by
  refine xx_wf (fun wf => ?_)
  have hlt : z < A.1 := wf z (by rw [hs]; show (2 : Nat) ≠ 0; decide)
  refine xx_room (d2 := d) (c2 := (296 + ((21 + (c1 + 1)) + 1)) + 1) (s2 := (3594 + ((76656 + (s1 + 1)) + 29)) + 18) (by omega) (by omega) (by omega) ?_
  refine xx_new xx_c8 (fs := [.null, .null, .null, .null, .null, .null, .int 0, .int 0, .null, .null, .int 0, .int 0, .null, .null, .null, .null, .null, .null]) dL_law_0 wc_L_8 wn_X8 wz_X8 df_X8 (xx_gp fun A1 z1 h1 o1 => ?_)
  refine xx_dup dL_law_3 rfl ?_
  have hs1 := (o1 z (by omega)).trans hs
  refine xx_callI (N := mX8_init) (vs := []) (b := A.1) (rest := [.ref A.1]) (d2 := 5) (c2 := 296) (s2 := 3594) (c3 := (21 + (c1 + 1)) + 1) (s3 := (76656 + (s1 + 1)) + 29) dL_law_4 rfl rfl rfl wm_L_73 wi_X8_init (by decide) nX8_init ⟨pX8_init, Nat.le_of_ble_eq_true rfl, by omega, Nat.le_of_ble_eq_true rfl, by omega, by omega⟩ (c_X8_init h1) (fun v A2 hC => ?_) (fun E A2 hC => absurd hC.1 (by simp))
  obtain ⟨hv, z2, br2, f2⟩ := hC
  cases hv
  refine xx_cst (st2 := [.ref A.1]) rfl ?_
  have hs2 := (f2 z (by omega) (by omega)).trans hs1
  rw [z1] at br2
  have t2 : A2.1 = A.1 + 297 := by omega
  refine xx_astore_n dL_law_7 (by decide) ?_
  refine xx_clv (lv2 := [(0, .ref z), (1, .ref A.1)]) rfl ?_
  refine xx_new xx_c9 (fs := [.int 0, .null, .null, .null, .int 0, .int 0, .null, .null, .null, .null, .int 0, .int 0, .null, .null, .null, .int 0, .int 0, .null, .null, .null, .null, .null, .null, .null, .null, .null, .null, .int 0, .null]) dL_law_8 wc_L_74 wn_X9 wz_X9 df_X9 (xx_gp fun A3 z3 h3 o3 => ?_)
  rw [t2] at h3 o3 ⊢
  refine xx_dup dL_law_11 rfl ?_
  have hs3 := (o3 z (by omega)).trans hs2
  have br3 := br2.to (C := A3) (o3 _ (by omega)) (fun q q1 q2 => o3 q (by omega))
  refine xx_callI (N := mX9_init) (vs := []) (b := (A.1 + 297)) (rest := [.ref (A.1 + 297)]) (d2 := 1) (c2 := 21) (s2 := 76656) (c3 := c1 + 1) (s3 := s1 + 1) dL_law_12 rfl rfl rfl wm_L_76 wi_X9_init (by decide) nX9_init ⟨pX9_init, Nat.le_of_ble_eq_true rfl, by omega, Nat.le_of_ble_eq_true rfl, by omega, by omega⟩ (c_X9_init h3) (fun v A4 hC => ?_) (fun E A4 hC => absurd hC.1 (by simp))
  obtain ⟨hv, z4, md4, f4⟩ := hC
  cases hv
  refine xx_cst (st2 := [.ref (A.1 + 297)]) rfl ?_
  have t3 : A3.1 = A.1 + 298 := by omega
  rw [t3] at md4
  have t4 : A4.1 = A.1 + 319 := by omega
  have hs4 := (f4 z (by omega) (by omega)).trans hs3
  have br4 := br3.to (C := A4) (f4 _ (by omega) (by omega)) (fun q q1 q2 => f4 q (by omega) (by omega))
  refine xx_astore_n dL_law_15 (by decide) ?_
  refine xx_clv (lv2 := [(0, .ref z), (1, .ref A.1), (2, .ref (A.1 + 297))]) rfl ?_
  refine xx_iconst (v := 1) dL_law_16 (by decide) ?_
  refine xx_newa (kd := 3) (N := 1) (z := .long 0) dL_law_17 (by decide) rfl (by intro C h; cases h) wa_long rfl (by decide) (by decide) (by decide) (xx_gp fun A5 z5 h5 o5 => ?_)
  rw [t4] at h5 o5 ⊢
  have hs5 := (o5 z (by omega)).trans hs4
  have br5 := br4.to (C := A5) (o5 _ (by omega)) (fun q q1 q2 => o5 q (by omega))
  have md5 := md4.to (C := A5) (o5 _ (by omega)) (fun q q1 q2 => o5 q (by omega))
  refine xx_astore_n dL_law_19 (by decide) ?_
  refine xx_clv (lv2 := [(0, .ref z), (1, .ref A.1), (2, .ref (A.1 + 297)), (3, .ref (A.1 + 319))]) rfl ?_
  refine xx_iconst (v := 0) dL_law_20 (by decide) ?_
  refine xx_istore dL_law_21 (by decide) ?_
  refine xx_clv (lv2 := [(0, .ref z), (1, .ref A.1), (2, .ref (A.1 + 297)), (3, .ref (A.1 + 319)), (4, .int 0)]) rfl ?_
  refine xx_clv (lv2 := xx_lv5 z A.1 (A.1 + 297) (A.1 + 319) 0) rfl ?_
  exact k A5 (by omega) hs5 hlt br5 md5 h5
