/-! ===== constructors ===== -/
theorem df_X0 : ∀ j, j < 3 → defaultValue (tyX0 j) = vp_V [.int 0, .int 0, .null] j := by decide +kernel
theorem df_X1 : ∀ j, j < 6 → defaultValue (tyX1 j) = vp_V [.null, .null, .null, .null, .null, .null] j := by decide +kernel
theorem df_X2 : ∀ j, j < 2 → defaultValue (tyX2 j) = vp_V [.null, .null] j := by decide +kernel
theorem df_X3 : ∀ j, j < 5 → defaultValue (tyX3 j) = vp_V [.null, .null, .null, .null, .null] j := by decide +kernel
theorem df_X4 : ∀ j, j < 7 → defaultValue (tyX4 j) = vp_V [.int 0, .int 0, .int 0, .int 0, .null, .null, .null] j := by decide +kernel
theorem df_X5 : ∀ j, j < 10 → defaultValue (tyX5 j) = vp_V [.int 0, .int 0, .int 0, .null, .null, .null, .null, .null, .null, .null] j := by decide +kernel
theorem df_X6 : ∀ j, j < 2 → defaultValue (tyX6 j) = vp_V [.null, .null] j := by decide +kernel
theorem df_X7 : ∀ j, j < 2 → defaultValue (tyX7 j) = vp_V [.null, .null] j := by decide +kernel
theorem df_X8 : ∀ j, j < 18 → defaultValue (tyX8 j) = vp_V [.null, .null, .null, .null, .null, .null, .int 0, .int 0, .null, .null, .int 0, .int 0, .null, .null, .null, .null, .null, .null] j := by decide +kernel
theorem df_X9 : ∀ j, j < 29 → defaultValue (tyX9 j) = vp_V [.int 0, .null, .null, .null, .int 0, .int 0, .null, .null, .null, .null, .int 0, .int 0, .null, .null, .null, .int 0, .int 0, .null, .null, .null, .null, .null, .null, .null, .null, .null, .null, .int 0, .null] j := by decide +kernel
theorem xx_k0 {A : xx_H} {a k : Nat} {fs : List Value} (h : A.2 a = xx_o k fs) : (A.2 a).1 ≠ 0 := by rw [h]; show 100 + k ≠ 0; omega
theorem xx_k1 {A : xx_H} {a n : Nat} {f : Nat → Int32} (h : A.2 a = xx_i n f) : (A.2 a).1 ≠ 0 := by rw [h]; show (1 : Nat) ≠ 0; decide
set_option maxRecDepth 100000 in
theorem c_X0_init {G : xx_G} {l : Launch} {A : xx_H} {b : Nat} (hb : A.2 b = xx_o 0 [.int 0, .int 0, .null]) : xx_X G l mX0_init 1 1 14 0 (lv_args 0 [.ref b]) [] A (fun r B => r = .inl none ∧ B.1 = A.1 + 1 ∧ B.2 b = xx_o 0 [.int 0, .int 0, .ref A.1] ∧ B.2 A.1 = xx_i 14 (fun _ => 0) ∧ ∀ q, q ≠ b → q < A.1 → B.2 q = A.2 q) := by
  refine xx_wf (fun wf => ?_)
  have hlt : b < A.1 := wf b (xx_k0 hb)
  refine xx_clv (lv2 := [(0, .ref b)]) rfl ?_
  refine xx_aload_n dX0_init_0 rfl ?_
  refine xx_obji dX0_init_1 wm_X0_1 wo_i wo_c (by decide) (Nat.le_of_ble_eq_true rfl) ?_
  refine xx_aload_n dX0_init_4 rfl ?_
  refine xx_iconst (v := 0) dX0_init_5 (by decide) ?_
  refine xx_put xx_c0 dX0_init_6 wf_X0_7 (j := 0) (by decide) rfl rfl rfl hb (Nat.le_of_ble_eq_true rfl) (xx_gu fun A1 z1 h1 o1 => ?_)
  have h1 : A1.2 b = xx_o 0 [.int 0, .int 0, .null] := h1
  refine xx_aload_n dX0_init_9 rfl ?_
  refine xx_iconst (v := 0) dX0_init_10 (by decide) ?_
  refine xx_put xx_c0 dX0_init_11 wf_X0_13 (j := 1) (by decide) rfl rfl rfl h1 (Nat.le_of_ble_eq_true rfl) (xx_gu fun A2 z2 h2 o2 => ?_)
  have h2 : A2.2 b = xx_o 0 [.int 0, .int 0, .null] := h2
  refine xx_aload_n dX0_init_14 rfl ?_
  refine xx_bipush (v := 14) dX0_init_15 (by decide) ?_
  refine xx_newa (kd := 1) (N := 14) (z := .int 0) dX0_init_17 (by decide) rfl (by intro C h; cases h) wa_int rfl (by decide) (by decide) (by decide) (xx_gp fun A3 z3 h3 o3 => ?_)
  have h3 : A3.2 A2.1 = xx_i 14 (fun _ => 0) := h3
  have h2_3 := (o3 b (by omega)).trans h2
  refine xx_putF xx_c0 dX0_init_19 wf_X0_16 (j := 2) (by decide) rfl rfl rfl rfl rfl h2_3 (Nat.le_of_ble_eq_true rfl) (xx_gu fun A4 z4 h4 o4 => ?_)
  have h4 : A4.2 b = xx_o 0 [.int 0, .int 0, .ref A2.1] := h4
  have h3_4 := (o4 A2.1 (by omega)).trans h3
  have ea : A2.1 = A.1 := by omega
  exact xx_vret dX0_init_22 rfl ⟨rfl, by omega, by rw [← ea]; exact h4, by rw [← ea]; exact h3_4, fun q hq1 hq2 => by rw [o4 q (by omega), o3 q (by omega), o2 q (by omega), o1 q (by omega)]⟩
set_option maxRecDepth 100000 in
theorem c_X4_init {G : xx_G} {l : Launch} {A : xx_H} {b : Nat} (hb : A.2 b = xx_o 4 [.int 0, .int 0, .int 0, .int 0, .null, .null, .null]) : xx_X G l mX4_init 1 3 108 0 (lv_args 0 [.ref b]) [] A (fun r B => r = .inl none ∧ B.1 = A.1 + 3 ∧ B.2 b = xx_o 4 [.int 0, .int 0, .int 0, .int 0, .ref A.1, .ref (A.1 + 1), .ref (A.1 + 2)] ∧ B.2 A.1 = xx_i 36 (fun _ => 0) ∧ B.2 (A.1 + 1) = xx_i 36 (fun _ => 0) ∧ B.2 (A.1 + 2) = xx_i 36 (fun _ => 0) ∧ ∀ q, q ≠ b → q < A.1 → B.2 q = A.2 q) := by
  refine xx_wf (fun wf => ?_)
  have hlt : b < A.1 := wf b (xx_k0 hb)
  refine xx_clv (lv2 := [(0, .ref b)]) rfl ?_
  refine xx_aload_n dX4_init_0 rfl ?_
  refine xx_obji dX4_init_1 wm_X4_3 wo_i wo_c (by decide) (Nat.le_of_ble_eq_true rfl) ?_
  refine xx_aload_n dX4_init_4 rfl ?_
  refine xx_iconst (v := 0) dX4_init_5 (by decide) ?_
  refine xx_put xx_c4 dX4_init_6 wf_X4_9 (j := 0) (by decide) rfl rfl rfl hb (Nat.le_of_ble_eq_true rfl) (xx_gu fun A1 z1 h1 o1 => ?_)
  have h1 : A1.2 b = xx_o 4 [.int 0, .int 0, .int 0, .int 0, .null, .null, .null] := h1
  refine xx_aload_n dX4_init_9 rfl ?_
  refine xx_iconst (v := 0) dX4_init_10 (by decide) ?_
  refine xx_put xx_c4 dX4_init_11 wf_X4_15 (j := 1) (by decide) rfl rfl rfl h1 (Nat.le_of_ble_eq_true rfl) (xx_gu fun A2 z2 h2 o2 => ?_)
  have h2 : A2.2 b = xx_o 4 [.int 0, .int 0, .int 0, .int 0, .null, .null, .null] := h2
  refine xx_aload_n dX4_init_14 rfl ?_
  refine xx_iconst (v := 0) dX4_init_15 (by decide) ?_
  refine xx_put xx_c4 dX4_init_16 wf_X4_18 (j := 2) (by decide) rfl rfl rfl h2 (Nat.le_of_ble_eq_true rfl) (xx_gu fun A3 z3 h3 o3 => ?_)
  have h3 : A3.2 b = xx_o 4 [.int 0, .int 0, .int 0, .int 0, .null, .null, .null] := h3
  refine xx_aload_n dX4_init_19 rfl ?_
  refine xx_iconst (v := 0) dX4_init_20 (by decide) ?_
  refine xx_put xx_c4 dX4_init_21 wf_X4_21 (j := 3) (by decide) rfl rfl rfl h3 (Nat.le_of_ble_eq_true rfl) (xx_gu fun A4 z4 h4 o4 => ?_)
  have h4 : A4.2 b = xx_o 4 [.int 0, .int 0, .int 0, .int 0, .null, .null, .null] := h4
  refine xx_aload_n dX4_init_24 rfl ?_
  refine xx_bipush (v := 36) dX4_init_25 (by decide) ?_
  refine xx_newa (kd := 1) (N := 36) (z := .int 0) dX4_init_27 (by decide) rfl (by intro C h; cases h) wa_int rfl (by decide) (by decide) (by decide) (xx_gp fun A5 z5 h5 o5 => ?_)
  have h5 : A5.2 A4.1 = xx_i 36 (fun _ => 0) := h5
  have h4_5 := (o5 b (by omega)).trans h4
  refine xx_putF xx_c4 dX4_init_29 wf_X4_24 (j := 4) (by decide) rfl rfl rfl rfl rfl h4_5 (Nat.le_of_ble_eq_true rfl) (xx_gu fun A6 z6 h6 o6 => ?_)
  have h6 : A6.2 b = xx_o 4 [.int 0, .int 0, .int 0, .int 0, .ref A4.1, .null, .null] := h6
  have h5_6 := (o6 A4.1 (by omega)).trans h5
  refine xx_aload_n dX4_init_32 rfl ?_
  refine xx_bipush (v := 36) dX4_init_33 (by decide) ?_
  refine xx_newa (kd := 1) (N := 36) (z := .int 0) dX4_init_35 (by decide) rfl (by intro C h; cases h) wa_int rfl (by decide) (by decide) (by decide) (xx_gp fun A7 z7 h7 o7 => ?_)
  have h7 : A7.2 A6.1 = xx_i 36 (fun _ => 0) := h7
  have h6_7 := (o7 b (by omega)).trans h6
  have h5_7 := (o7 A4.1 (by omega)).trans h5_6
  refine xx_putF xx_c4 dX4_init_37 wf_X4_28 (j := 5) (by decide) rfl rfl rfl rfl rfl h6_7 (Nat.le_of_ble_eq_true rfl) (xx_gu fun A8 z8 h8 o8 => ?_)
  have h8 : A8.2 b = xx_o 4 [.int 0, .int 0, .int 0, .int 0, .ref A4.1, .ref A6.1, .null] := h8
  have h5_8 := (o8 A4.1 (by omega)).trans h5_7
  have h7_8 := (o8 A6.1 (by omega)).trans h7
  refine xx_aload_n dX4_init_40 rfl ?_
  refine xx_bipush (v := 36) dX4_init_41 (by decide) ?_
  refine xx_newa (kd := 1) (N := 36) (z := .int 0) dX4_init_43 (by decide) rfl (by intro C h; cases h) wa_int rfl (by decide) (by decide) (by decide) (xx_gp fun A9 z9 h9 o9 => ?_)
  have h9 : A9.2 A8.1 = xx_i 36 (fun _ => 0) := h9
  have h8_9 := (o9 b (by omega)).trans h8
  have h5_9 := (o9 A4.1 (by omega)).trans h5_8
  have h7_9 := (o9 A6.1 (by omega)).trans h7_8
  refine xx_putF xx_c4 dX4_init_45 wf_X4_31 (j := 6) (by decide) rfl rfl rfl rfl rfl h8_9 (Nat.le_of_ble_eq_true rfl) (xx_gu fun A10 z10 h10 o10 => ?_)
  have h10 : A10.2 b = xx_o 4 [.int 0, .int 0, .int 0, .int 0, .ref A4.1, .ref A6.1, .ref A8.1] := h10
  have h5_10 := (o10 A4.1 (by omega)).trans h5_9
  have h7_10 := (o10 A6.1 (by omega)).trans h7_9
  have h9_10 := (o10 A8.1 (by omega)).trans h9
  have ea : A4.1 = A.1 := by omega
  have eb : A6.1 = A.1 + 1 := by omega
  have ec : A8.1 = A.1 + 2 := by omega
  rw [ea, eb, ec] at h10
  rw [ea] at h5_10
  rw [eb] at h7_10
  rw [ec] at h9_10
  exact xx_vret dX4_init_48 rfl ⟨rfl, by omega, h10, h5_10, h7_10, h9_10, fun q hq1 hq2 => by rw [o10 q (by omega), o9 q (by omega), o8 q (by omega), o7 q (by omega), o6 q (by omega), o5 q (by omega), o4 q (by omega), o3 q (by omega), o2 q (by omega), o1 q (by omega)]⟩
set_option maxRecDepth 100000 in
theorem c_X6_init {G : xx_G} {l : Launch} {A : xx_H} {b : Nat} (hb : A.2 b = xx_o 6 [.null, .null]) : xx_X G l mX6_init 1 2 12 0 (lv_args 0 [.ref b]) [] A (fun r B => r = .inl none ∧ B.1 = A.1 + 2 ∧ B.2 b = xx_o 6 [.ref A.1, .ref (A.1 + 1)] ∧ B.2 A.1 = xx_i 6 (fun _ => 0) ∧ B.2 (A.1 + 1) = xx_i 6 (fun _ => 0) ∧ ∀ q, q ≠ b → q < A.1 → B.2 q = A.2 q) := by
  refine xx_wf (fun wf => ?_)
  have hlt : b < A.1 := wf b (xx_k0 hb)
  refine xx_clv (lv2 := [(0, .ref b)]) rfl ?_
  refine xx_aload_n dX6_init_0 rfl ?_
  refine xx_obji dX6_init_1 wm_X6_3 wo_i wo_c (by decide) (Nat.le_of_ble_eq_true rfl) ?_
  refine xx_aload_n dX6_init_4 rfl ?_
  refine xx_bipush (v := 6) dX6_init_5 (by decide) ?_
  refine xx_newa (kd := 1) (N := 6) (z := .int 0) dX6_init_7 (by decide) rfl (by intro C h; cases h) wa_int rfl (by decide) (by decide) (by decide) (xx_gp fun A1 z1 h1 o1 => ?_)
  have h1 : A1.2 A.1 = xx_i 6 (fun _ => 0) := h1
  have hb_1 := (o1 b (by omega)).trans hb
  refine xx_putF xx_c6 dX6_init_9 wf_X6_9 (j := 0) (by decide) rfl rfl rfl rfl rfl hb_1 (Nat.le_of_ble_eq_true rfl) (xx_gu fun A2 z2 h2 o2 => ?_)
  have h2 : A2.2 b = xx_o 6 [.ref A.1, .null] := h2
  have h1_2 := (o2 A.1 (by omega)).trans h1
  refine xx_aload_n dX6_init_12 rfl ?_
  refine xx_bipush (v := 6) dX6_init_13 (by decide) ?_
  refine xx_newa (kd := 1) (N := 6) (z := .int 0) dX6_init_15 (by decide) rfl (by intro C h; cases h) wa_int rfl (by decide) (by decide) (by decide) (xx_gp fun A3 z3 h3 o3 => ?_)
  have h3 : A3.2 A2.1 = xx_i 6 (fun _ => 0) := h3
  have h2_3 := (o3 b (by omega)).trans h2
  have h1_3 := (o3 A.1 (by omega)).trans h1_2
  refine xx_putF xx_c6 dX6_init_17 wf_X6_15 (j := 1) (by decide) rfl rfl rfl rfl rfl h2_3 (Nat.le_of_ble_eq_true rfl) (xx_gu fun A4 z4 h4 o4 => ?_)
  have h4 : A4.2 b = xx_o 6 [.ref A.1, .ref A2.1] := h4
  have h1_4 := (o4 A.1 (by omega)).trans h1_3
  have h3_4 := (o4 A2.1 (by omega)).trans h3
  have ea : A.1 = A.1 := by omega
  have eb : A2.1 = A.1 + 1 := by omega
  rw [ea, eb] at h4
  rw [ea] at h1_4
  rw [eb] at h3_4
  exact xx_vret dX6_init_20 rfl ⟨rfl, by omega, h4, h1_4, h3_4, fun q hq1 hq2 => by rw [o4 q (by omega), o3 q (by omega), o2 q (by omega), o1 q (by omega)]⟩
