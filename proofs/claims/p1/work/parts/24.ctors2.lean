/-! ===== constructors of what holds numbers ===== -/
/-- a number that is 0, its digits behind it -/
def xx_zb (B : xx_H) (a : Nat) : Prop := B.2 a = xx_o 0 [.int 0, .int 0, .ref (a + 1)] ∧ B.2 (a + 1) = xx_i 14 (fun _ => 0)
theorem xx_zb.to {B C : xx_H} {a : Nat} (h : xx_zb B a) (h1 : C.2 a = B.2 a) (h2 : C.2 (a + 1) = B.2 (a + 1)) : xx_zb C a := ⟨h1.trans h.1, h2.trans h.2⟩
theorem xx_row.to {B C : xx_H} {a n : Nat} (h : xx_row B a n) (h1 : ∀ q, a ≤ q → q < a + 1 + 2 * n → C.2 q = B.2 q) : xx_row C a n := by
  obtain ⟨⟨f, g1, g2⟩, g3⟩ := h
  refine ⟨⟨f, (h1 a (by omega) (by omega)).trans g1, g2⟩, fun j hj => ?_⟩
  obtain ⟨k1, k2⟩ := g3 j hj
  exact ⟨(h1 _ (by omega) (by omega)).trans k1, (h1 _ (by omega) (by omega)).trans k2⟩
def xx_div0 (B : xx_H) (b a : Nat) : Prop := B.2 b = xx_o 1 [.ref a, .ref (a + 1), .ref (a + 2), .ref (a + 4), .ref (a + 6), .ref (a + 4)] ∧ B.2 a = xx_i 15 (fun _ => 0) ∧ B.2 (a + 1) = xx_i 15 (fun _ => 0) ∧ xx_zb B (a + 2) ∧ xx_zb B (a + 4) ∧ xx_zb B (a + 6)
theorem c_big0 {G : xx_G} {l : Launch} {A : xx_H} {b : Nat} (hb : A.2 b = xx_o 0 [.int 0, .int 0, .null]) (e : A.1 = b + 1) : xx_X G l mX0_init 1 1 14 0 (lv_args 0 [.ref b]) [] A (fun r B => r = .inl none ∧ B.1 = b + 2 ∧ xx_zb B b ∧ ∀ q, q ≠ b → q < b → B.2 q = A.2 q) :=
  xx_mono (fun r B h => ⟨h.1, by omega, ⟨by rw [← e]; exact h.2.2.1, by rw [← e]; exact h.2.2.2.1⟩, fun q h1 h2 => h.2.2.2.2 q h1 (by omega)⟩) (c_X0_init hb)
set_option maxRecDepth 100000 in
theorem c_X1_init {G : xx_G} {l : Launch} {A : xx_H} {b : Nat} (hb : A.2 b = xx_o 1 [.null, .null, .null, .null, .null, .null]) : xx_X G l mX1_init 2 8 81 0 (lv_args 0 [.ref b]) [] A (fun r B => r = .inl none ∧ B.1 = A.1 + 8 ∧ xx_div0 B b A.1 ∧ ∀ q, q ≠ b → q < A.1 → B.2 q = A.2 q) := by
  refine xx_wf (fun wf => ?_)
  have hlt : b < A.1 := wf b (xx_k0 hb)
  refine xx_clv (lv2 := [(0, .ref b)]) rfl ?_
  refine xx_aload_n dX1_init_0 rfl ?_
  refine xx_obji dX1_init_1 wm_X1_1 wo_i wo_c (by decide) (Nat.le_of_ble_eq_true rfl) ?_
  refine xx_aload_n dX1_init_4 rfl ?_
  refine xx_bipush (v := 15) dX1_init_5 (by decide) ?_
  refine xx_newa (kd := 1) (N := 15) (z := .int 0) dX1_init_7 (by decide) rfl (by intro C h; cases h) wa_int rfl (by decide) (by decide) (by decide) (xx_gp fun A1 z1 h1 o1 => ?_)
  have t1 : A1.1 = A.1 + 1 := by omega
  have h1 : A1.2 A.1 = xx_i 15 (fun _ => 0) := h1
  have hb_1 := (o1 b (by omega)).trans hb
  refine xx_putF xx_c1 dX1_init_9 wf_X1_9 (j := 0) (by decide) rfl rfl rfl rfl rfl hb_1 (Nat.le_of_ble_eq_true rfl) (xx_gu fun A2 z2 h2 o2 => ?_)
  have h2 : A2.2 b = xx_o 1 [.ref A.1, .null, .null, .null, .null, .null] := h2
  have h1_2 := (o2 A.1 (by omega)).trans h1
  have t2 : A2.1 = A.1 + 1 := by omega
  refine xx_aload_n dX1_init_12 rfl ?_
  refine xx_bipush (v := 15) dX1_init_13 (by decide) ?_
  refine xx_newa (kd := 1) (N := 15) (z := .int 0) dX1_init_15 (by decide) rfl (by intro C h; cases h) wa_int rfl (by decide) (by decide) (by decide) (xx_gp fun A3 z3 h3 o3 => ?_)
  rw [t2] at h3 ⊢
  have t3 : A3.1 = A.1 + 2 := by omega
  have h3 : A3.2 (A.1 + 1) = xx_i 15 (fun _ => 0) := h3
  have h2_3 := (o3 b (by omega)).trans h2
  have h1_3 := (o3 A.1 (by omega)).trans h1_2
  refine xx_putF xx_c1 dX1_init_17 wf_X1_15 (j := 1) (by decide) rfl rfl rfl rfl rfl h2_3 (Nat.le_of_ble_eq_true rfl) (xx_gu fun A4 z4 h4 o4 => ?_)
  have h4 : A4.2 b = xx_o 1 [.ref A.1, .ref (A.1 + 1), .null, .null, .null, .null] := h4
  have h1_4 := (o4 A.1 (by omega)).trans h1_3
  have h3_4 := (o4 (A.1 + 1) (by omega)).trans h3
  have t4 : A4.1 = A.1 + 2 := by omega
  refine xx_aload_n dX1_init_20 rfl ?_
  refine xx_new xx_c0 (fs := [.int 0, .int 0, .null]) dX1_init_21 wc_X1_7 wn_X0 wz_X0 df_X0 (xx_gp fun A5 z5 h5 o5 => ?_)
  rw [t4] at h5 ⊢
  have t5 : A5.1 = A.1 + 3 := by omega
  have h5 : A5.2 (A.1 + 2) = xx_o 0 [.int 0, .int 0, .null] := h5
  have h4_5 := (o5 b (by omega)).trans h4
  have h1_5 := (o5 A.1 (by omega)).trans h1_4
  have h3_5 := (o5 (A.1 + 1) (by omega)).trans h3_4
  refine xx_dup dX1_init_24 rfl ?_
  refine xx_callIN (N := mX0_init) (vs := []) (b := (A.1 + 2)) (rest := [.ref (A.1 + 2), .ref b]) (d2 := 1) (c2 := 1) (s2 := 14) (c3 := 4) (s3 := 34) dX1_init_25 (host := RX8) rfl rfl rfl (by decide) wi_X0_init (by decide) nX0_init ⟨pX0_init, Nat.le_of_ble_eq_true rfl, by decide, Nat.le_of_ble_eq_true rfl, by omega, by omega⟩ (c_big0 h5 (by omega)) (fun v A6 hC => ?_) (fun E A6 hC => ?_)
  rotate_left
  · exact absurd hC.1 (by simp)
  obtain ⟨hv, y6, zb6, fr6⟩ := hC
  cases hv
  have t6 : A6.1 = A.1 + 4 := by omega
  have h4_6 := (fr6 b (by omega) (by omega)).trans h4_5
  have h1_6 := (fr6 A.1 (by omega) (by omega)).trans h1_5
  have h3_6 := (fr6 (A.1 + 1) (by omega) (by omega)).trans h3_5
  refine xx_cst (st2 := [.ref (A.1 + 2), .ref b]) rfl ?_
  obtain ⟨p6, pb6⟩ := zb6
  refine xx_putF xx_c1 dX1_init_28 wf_X1_19 (j := 2) (by decide) rfl rfl rfl rfl rfl h4_6 (Nat.le_of_ble_eq_true rfl) (xx_gu fun A7 z7 h7 o7 => ?_)
  have h7 : A7.2 b = xx_o 1 [.ref A.1, .ref (A.1 + 1), .ref (A.1 + 2), .null, .null, .null] := h7
  have h1_7 := (o7 A.1 (by omega)).trans h1_6
  have h3_7 := (o7 (A.1 + 1) (by omega)).trans h3_6
  have p6_7 := (o7 (A.1 + 2) (by omega)).trans p6
  have pb6_7 := (o7 (A.1 + 2 + 1) (by omega)).trans pb6
  have t7 : A7.1 = A.1 + 4 := by omega
  refine xx_aload_n dX1_init_31 rfl ?_
  refine xx_new xx_c0 (fs := [.int 0, .int 0, .null]) dX1_init_32 wc_X1_7 wn_X0 wz_X0 df_X0 (xx_gp fun A8 z8 h8 o8 => ?_)
  rw [t7] at h8 ⊢
  have t8 : A8.1 = A.1 + 5 := by omega
  have h8 : A8.2 (A.1 + 4) = xx_o 0 [.int 0, .int 0, .null] := h8
  have h7_8 := (o8 b (by omega)).trans h7
  have h1_8 := (o8 A.1 (by omega)).trans h1_7
  have h3_8 := (o8 (A.1 + 1) (by omega)).trans h3_7
  have p6_8 := (o8 (A.1 + 2) (by omega)).trans p6_7
  have pb6_8 := (o8 (A.1 + 2 + 1) (by omega)).trans pb6_7
  refine xx_dup dX1_init_35 rfl ?_
  refine xx_callIN (N := mX0_init) (vs := []) (b := (A.1 + 4)) (rest := [.ref (A.1 + 4), .ref b]) (d2 := 1) (c2 := 1) (s2 := 14) (c3 := 2) (s3 := 17) dX1_init_36 (host := RX8) rfl rfl rfl (by decide) wi_X0_init (by decide) nX0_init ⟨pX0_init, Nat.le_of_ble_eq_true rfl, by decide, Nat.le_of_ble_eq_true rfl, by omega, by omega⟩ (c_big0 h8 (by omega)) (fun v A9 hC => ?_) (fun E A9 hC => ?_)
  rotate_left
  · exact absurd hC.1 (by simp)
  obtain ⟨hv, y9, zb9, fr9⟩ := hC
  cases hv
  have t9 : A9.1 = A.1 + 6 := by omega
  have h7_9 := (fr9 b (by omega) (by omega)).trans h7_8
  have h1_9 := (fr9 A.1 (by omega) (by omega)).trans h1_8
  have h3_9 := (fr9 (A.1 + 1) (by omega) (by omega)).trans h3_8
  have p6_9 := (fr9 (A.1 + 2) (by omega) (by omega)).trans p6_8
  have pb6_9 := (fr9 (A.1 + 2 + 1) (by omega) (by omega)).trans pb6_8
  refine xx_cst (st2 := [.ref (A.1 + 4), .ref b]) rfl ?_
  obtain ⟨p9, pb9⟩ := zb9
  refine xx_putF xx_c1 dX1_init_39 wf_X1_23 (j := 3) (by decide) rfl rfl rfl rfl rfl h7_9 (Nat.le_of_ble_eq_true rfl) (xx_gu fun A10 z10 h10 o10 => ?_)
  have h10 : A10.2 b = xx_o 1 [.ref A.1, .ref (A.1 + 1), .ref (A.1 + 2), .ref (A.1 + 4), .null, .null] := h10
  have h1_10 := (o10 A.1 (by omega)).trans h1_9
  have h3_10 := (o10 (A.1 + 1) (by omega)).trans h3_9
  have p6_10 := (o10 (A.1 + 2) (by omega)).trans p6_9
  have pb6_10 := (o10 (A.1 + 2 + 1) (by omega)).trans pb6_9
  have p9_10 := (o10 (A.1 + 4) (by omega)).trans p9
  have pb9_10 := (o10 (A.1 + 4 + 1) (by omega)).trans pb9
  have t10 : A10.1 = A.1 + 6 := by omega
  refine xx_aload_n dX1_init_42 rfl ?_
  refine xx_new xx_c0 (fs := [.int 0, .int 0, .null]) dX1_init_43 wc_X1_7 wn_X0 wz_X0 df_X0 (xx_gp fun A11 z11 h11 o11 => ?_)
  rw [t10] at h11 ⊢
  have t11 : A11.1 = A.1 + 7 := by omega
  have h11 : A11.2 (A.1 + 6) = xx_o 0 [.int 0, .int 0, .null] := h11
  have h10_11 := (o11 b (by omega)).trans h10
  have h1_11 := (o11 A.1 (by omega)).trans h1_10
  have h3_11 := (o11 (A.1 + 1) (by omega)).trans h3_10
  have p6_11 := (o11 (A.1 + 2) (by omega)).trans p6_10
  have pb6_11 := (o11 (A.1 + 2 + 1) (by omega)).trans pb6_10
  have p9_11 := (o11 (A.1 + 4) (by omega)).trans p9_10
  have pb9_11 := (o11 (A.1 + 4 + 1) (by omega)).trans pb9_10
  refine xx_dup dX1_init_46 rfl ?_
  refine xx_callIN (N := mX0_init) (vs := []) (b := (A.1 + 6)) (rest := [.ref (A.1 + 6), .ref b]) (d2 := 1) (c2 := 1) (s2 := 14) (c3 := 0) (s3 := 0) dX1_init_47 (host := RX8) rfl rfl rfl (by decide) wi_X0_init (by decide) nX0_init ⟨pX0_init, Nat.le_of_ble_eq_true rfl, by decide, Nat.le_of_ble_eq_true rfl, by omega, by omega⟩ (c_big0 h11 (by omega)) (fun v A12 hC => ?_) (fun E A12 hC => ?_)
  rotate_left
  · exact absurd hC.1 (by simp)
  obtain ⟨hv, y12, zb12, fr12⟩ := hC
  cases hv
  have t12 : A12.1 = A.1 + 8 := by omega
  have h10_12 := (fr12 b (by omega) (by omega)).trans h10_11
  have h1_12 := (fr12 A.1 (by omega) (by omega)).trans h1_11
  have h3_12 := (fr12 (A.1 + 1) (by omega) (by omega)).trans h3_11
  have p6_12 := (fr12 (A.1 + 2) (by omega) (by omega)).trans p6_11
  have pb6_12 := (fr12 (A.1 + 2 + 1) (by omega) (by omega)).trans pb6_11
  have p9_12 := (fr12 (A.1 + 4) (by omega) (by omega)).trans p9_11
  have pb9_12 := (fr12 (A.1 + 4 + 1) (by omega) (by omega)).trans pb9_11
  refine xx_cst (st2 := [.ref (A.1 + 6), .ref b]) rfl ?_
  obtain ⟨p12, pb12⟩ := zb12
  refine xx_putF xx_c1 dX1_init_50 wf_X1_26 (j := 4) (by decide) rfl rfl rfl rfl rfl h10_12 (Nat.le_of_ble_eq_true rfl) (xx_gu fun A13 z13 h13 o13 => ?_)
  have h13 : A13.2 b = xx_o 1 [.ref A.1, .ref (A.1 + 1), .ref (A.1 + 2), .ref (A.1 + 4), .ref (A.1 + 6), .null] := h13
  have h1_13 := (o13 A.1 (by omega)).trans h1_12
  have h3_13 := (o13 (A.1 + 1) (by omega)).trans h3_12
  have p6_13 := (o13 (A.1 + 2) (by omega)).trans p6_12
  have pb6_13 := (o13 (A.1 + 2 + 1) (by omega)).trans pb6_12
  have p9_13 := (o13 (A.1 + 4) (by omega)).trans p9_12
  have pb9_13 := (o13 (A.1 + 4 + 1) (by omega)).trans pb9_12
  have p12_13 := (o13 (A.1 + 6) (by omega)).trans p12
  have pb12_13 := (o13 (A.1 + 6 + 1) (by omega)).trans pb12
  have t13 : A13.1 = A.1 + 8 := by omega
  refine xx_aload_n dX1_init_53 rfl ?_
  refine xx_aload_n dX1_init_54 rfl ?_
  refine xx_get xx_c1 dX1_init_55 wf_X1_23 (j := 3) (by decide) h13 rfl ?_
  refine xx_put xx_c1 dX1_init_58 wf_X1_29 (j := 5) (by decide) rfl rfl rfl h13 (Nat.le_of_ble_eq_true rfl) (xx_gu fun A14 z14 h14 o14 => ?_)
  have h14 : A14.2 b = xx_o 1 [.ref A.1, .ref (A.1 + 1), .ref (A.1 + 2), .ref (A.1 + 4), .ref (A.1 + 6), .ref (A.1 + 4)] := h14
  have h1_14 := (o14 A.1 (by omega)).trans h1_13
  have h3_14 := (o14 (A.1 + 1) (by omega)).trans h3_13
  have p6_14 := (o14 (A.1 + 2) (by omega)).trans p6_13
  have pb6_14 := (o14 (A.1 + 2 + 1) (by omega)).trans pb6_13
  have p9_14 := (o14 (A.1 + 4) (by omega)).trans p9_13
  have pb9_14 := (o14 (A.1 + 4 + 1) (by omega)).trans pb9_13
  have p12_14 := (o14 (A.1 + 6) (by omega)).trans p12_13
  have pb12_14 := (o14 (A.1 + 6 + 1) (by omega)).trans pb12_13
  have t14 : A14.1 = A.1 + 8 := by omega
  exact xx_vret dX1_init_61 rfl ⟨rfl, by omega, ⟨h14, h1_14, h3_14, ⟨p6_14, pb6_14⟩, ⟨p9_14, pb9_14⟩, ⟨p12_14, pb12_14⟩⟩, fun q hq1 hq2 => by rw [o14 q (by omega), o13 q (by omega), fr12 q (by omega) (by omega), o11 q (by omega), o10 q (by omega), fr9 q (by omega) (by omega), o8 q (by omega), o7 q (by omega), fr6 q (by omega) (by omega), o5 q (by omega), o4 q (by omega), o3 q (by omega), o2 q (by omega), o1 q (by omega)]⟩
def xx_wt0 (B : xx_H) (b a : Nat) : Prop := B.2 b = xx_o 7 [.ref a, .ref (a + 13)] ∧ xx_row B a 6 ∧ xx_zb B (a + 13)
set_option maxRecDepth 100000 in
theorem c_X7_init {G : xx_G} {l : Launch} {A : xx_H} {b : Nat} (hb : A.2 b = xx_o 7 [.null, .null]) : xx_X G l mX7_init 4 15 125 0 (lv_args 0 [.ref b]) [] A (fun r B => r = .inl none ∧ B.1 = A.1 + 15 ∧ xx_wt0 B b A.1 ∧ ∀ q, q ≠ b → q < A.1 → B.2 q = A.2 q) := by
  refine xx_wf (fun wf => ?_)
  have hlt : b < A.1 := wf b (xx_k0 hb)
  refine xx_clv (lv2 := [(0, .ref b)]) rfl ?_
  refine xx_aload_n dX7_init_0 rfl ?_
  refine xx_obji dX7_init_1 wm_X7_3 wo_i wo_c (by decide) (Nat.le_of_ble_eq_true rfl) ?_
  refine xx_aload_n dX7_init_4 rfl ?_
  refine xx_bipush (v := 6) dX7_init_5 (by decide) ?_
  refine xx_eqi (y := nI 6) rfl ?_
  refine xx_callSN (N := mX8_bigs) (vs := [.int (nI 6)]) (rest := [.ref b]) (d2 := 3) (c2 := 13) (s2 := 108) (c3 := 2) (s3 := 17) dX7_init_7 (host := RX8) (by decide) ws_X8_bigs wz_X8 (by decide) nX8_bigs ⟨pX8_bigs, Nat.le_of_ble_eq_true rfl, by decide, Nat.le_of_ble_eq_true rfl, by omega, by omega⟩ (c_X8_bigs (N := 6) (by decide)) (fun v A1 hC => ?_) (fun E A1 hC => ?_)
  rotate_left
  · exact absurd hC.1 (by simp)
  obtain ⟨hv, y1, rw1, fr1⟩ := hC
  cases hv
  have t1 : A1.1 = A.1 + 13 := by omega
  have hb_1 := (fr1 b (by omega)).trans hb
  refine xx_cst (st2 := [.ref A.1, .ref b]) rfl ?_
  refine xx_putF xx_c7 dX7_init_10 wf_X7_13 (j := 0) (by decide) rfl rfl rfl rfl rfl hb_1 (Nat.le_of_ble_eq_true rfl) (xx_gu fun A2 z2 h2 o2 => ?_)
  have h2 : A2.2 b = xx_o 7 [.ref A.1, .null] := h2
  have t2 : A2.1 = A.1 + 13 := by omega
  refine xx_aload_n dX7_init_13 rfl ?_
  refine xx_new xx_c0 (fs := [.int 0, .int 0, .null]) dX7_init_14 wc_X7_19 wn_X0 wz_X0 df_X0 (xx_gp fun A3 z3 h3 o3 => ?_)
  rw [t2] at h3 ⊢
  have t3 : A3.1 = A.1 + 14 := by omega
  have h3 : A3.2 (A.1 + 13) = xx_o 0 [.int 0, .int 0, .null] := h3
  have h2_3 := (o3 b (by omega)).trans h2
  refine xx_dup dX7_init_17 rfl ?_
  refine xx_callIN (N := mX0_init) (vs := []) (b := (A.1 + 13)) (rest := [.ref (A.1 + 13), .ref b]) (d2 := 1) (c2 := 1) (s2 := 14) (c3 := 0) (s3 := 0) dX7_init_18 (host := RX8) rfl rfl rfl (by decide) wi_X0_init (by decide) nX0_init ⟨pX0_init, Nat.le_of_ble_eq_true rfl, by decide, Nat.le_of_ble_eq_true rfl, by omega, by omega⟩ (c_big0 h3 (by omega)) (fun v A4 hC => ?_) (fun E A4 hC => ?_)
  rotate_left
  · exact absurd hC.1 (by simp)
  obtain ⟨hv, y4, zb4, fr4⟩ := hC
  cases hv
  have t4 : A4.1 = A.1 + 15 := by omega
  have h2_4 := (fr4 b (by omega) (by omega)).trans h2_3
  refine xx_cst (st2 := [.ref (A.1 + 13), .ref b]) rfl ?_
  obtain ⟨p4, pb4⟩ := zb4
  refine xx_putF xx_c7 dX7_init_21 wf_X7_22 (j := 1) (by decide) rfl rfl rfl rfl rfl h2_4 (Nat.le_of_ble_eq_true rfl) (xx_gu fun A5 z5 h5 o5 => ?_)
  have h5 : A5.2 b = xx_o 7 [.ref A.1, .ref (A.1 + 13)] := h5
  have p4_5 := (o5 (A.1 + 13) (by omega)).trans p4
  have pb4_5 := (o5 (A.1 + 13 + 1) (by omega)).trans pb4
  have t5 : A5.1 = A.1 + 15 := by omega
  exact xx_vret dX7_init_24 rfl ⟨rfl, by omega, ⟨h5, (rw1.to (fun q hq1 hq2 => by rw [o5 q (by omega), fr4 q (by omega) (by omega), o3 q (by omega), o2 q (by omega)])), ⟨p4_5, pb4_5⟩⟩, fun q hq1 hq2 => by rw [o5 q (by omega), fr4 q (by omega) (by omega), o3 q (by omega), o2 q (by omega), fr1 q (by omega)]⟩
