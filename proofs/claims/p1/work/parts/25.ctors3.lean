/-! ===== constructors: Fraction, Table, BestReplies ===== -/
theorem xx_div0.to {B C : xx_H} {b a : Nat} (h : xx_div0 B b a) (h0 : C.2 b = B.2 b) (h1 : ∀ q, a ≤ q → q < a + 8 → C.2 q = B.2 q) : xx_div0 C b a := by
  obtain ⟨g1, g2, g3, g4, g5, g6⟩ := h
  exact ⟨h0.trans g1, (h1 _ (by omega) (by omega)).trans g2, (h1 _ (by omega) (by omega)).trans g3, g4.to (h1 _ (by omega) (by omega)) (h1 _ (by omega) (by omega)), g5.to (h1 _ (by omega) (by omega)) (h1 _ (by omega) (by omega)), g6.to (h1 _ (by omega) (by omega)) (h1 _ (by omega) (by omega))⟩
theorem xx_wt0.to {B C : xx_H} {b a : Nat} (h : xx_wt0 B b a) (h0 : C.2 b = B.2 b) (h1 : ∀ q, a ≤ q → q < a + 15 → C.2 q = B.2 q) : xx_wt0 C b a :=
  ⟨h0.trans h.1, h.2.1.to (fun q q1 q2 => h1 q q1 (by omega)), h.2.2.to (h1 _ (by omega) (by omega)) (h1 _ (by omega) (by omega))⟩
def xx_fun1 : Nat → Int32 := fun j => if j = 0 then 1 else 0
theorem xx_d3_one : xx_d3 (fun _ => 0) (if (0 : Int64) ≤ 1 then 1 else -1) = xx_fun1 := by
  funext j
  unfold xx_d3 upd xx_fun1
  by_cases h2 : j = 2
  · subst h2; decide
  · by_cases h1 : j = 1
    · subst h1; decide
    · by_cases h0 : j = 0
      · subst h0; decide
      · simp [h0, h1, h2]
theorem xx_tl_one : xx_tl xx_fun1 3 = 1 := by decide
def xx_fr0 (B : xx_H) (b a : Nat) : Prop := B.2 b = xx_o 2 [.ref a, .ref (a + 2)] ∧ xx_zb B a ∧ B.2 (a + 2) = xx_o 0 [.int 1, .int 1, .ref (a + 2 + 1)] ∧ B.2 (a + 2 + 1) = xx_i 14 xx_fun1
theorem xx_fr0.to {B C : xx_H} {b a : Nat} (h : xx_fr0 B b a) (h0 : C.2 b = B.2 b) (h1 : ∀ q, a ≤ q → q < a + 4 → C.2 q = B.2 q) : xx_fr0 C b a :=
  ⟨h0.trans h.1, h.2.1.to (h1 _ (by omega) (by omega)) (h1 _ (by omega) (by omega)), (h1 _ (by omega) (by omega)).trans h.2.2.1, (h1 _ (by omega) (by omega)).trans h.2.2.2⟩
set_option maxRecDepth 100000 in
theorem c_X2_init {G : xx_G} {l : Launch} {A : xx_H} {b : Nat} (hb : A.2 b = xx_o 2 [.null, .null]) : xx_X G l mX2_init 2 4 34 0 (lv_args 0 [.ref b]) [] A (fun r B => r = .inl none ∧ B.1 = A.1 + 4 ∧ xx_fr0 B b A.1 ∧ ∀ q, q ≠ b → q < A.1 → B.2 q = A.2 q) := by
  refine xx_wf (fun wf => ?_)
  have hlt : b < A.1 := wf b (xx_k0 hb)
  refine xx_clv (lv2 := [(0, .ref b)]) rfl ?_
  refine xx_aload_n dX2_init_0 rfl ?_
  refine xx_obji dX2_init_1 wm_X2_1 wo_i wo_c (by decide) (Nat.le_of_ble_eq_true rfl) ?_
  refine xx_aload_n dX2_init_4 rfl ?_
  refine xx_new xx_c0 (fs := [.int 0, .int 0, .null]) dX2_init_5 wc_X2_7 wn_X0 wz_X0 df_X0 (xx_gp fun A1 z1 h1 o1 => ?_)
  have t1 : A1.1 = A.1 + 1 := by omega
  have h1 : A1.2 A.1 = xx_o 0 [.int 0, .int 0, .null] := h1
  have hb_1 := (o1 b (by omega)).trans hb
  refine xx_dup dX2_init_8 rfl ?_
  refine xx_callIN (N := mX0_init) (vs := []) (b := A.1) (rest := [.ref A.1, .ref b]) (d2 := 1) (c2 := 1) (s2 := 14) (c3 := 2) (s3 := 17) dX2_init_9 (host := RX8) rfl rfl rfl (by decide) wi_X0_init (by decide) nX0_init ⟨pX0_init, Nat.le_of_ble_eq_true rfl, by decide, Nat.le_of_ble_eq_true rfl, by omega, by omega⟩ (c_big0 h1 (by omega)) (fun v A2 hC => ?_) (fun E A2 hC => ?_)
  rotate_left
  · exact absurd hC.1 (by simp)
  obtain ⟨hv, y2, zb2, fr2⟩ := hC
  cases hv
  have t2 : A2.1 = A.1 + 2 := by omega
  have hb_2 := (fr2 b (by omega) (by omega)).trans hb_1
  refine xx_cst (st2 := [.ref A.1, .ref b]) rfl ?_
  obtain ⟨p2, pb2⟩ := zb2
  refine xx_putF xx_c2 dX2_init_12 wf_X2_10 (j := 0) (by decide) rfl rfl rfl rfl rfl hb_2 (Nat.le_of_ble_eq_true rfl) (xx_gu fun A3 z3 h3 o3 => ?_)
  have h3 : A3.2 b = xx_o 2 [.ref A.1, .null] := h3
  have p2_3 := (o3 A.1 (by omega)).trans p2
  have pb2_3 := (o3 (A.1 + 1) (by omega)).trans pb2
  have t3 : A3.1 = A.1 + 2 := by omega
  refine xx_aload_n dX2_init_15 rfl ?_
  refine xx_new xx_c0 (fs := [.int 0, .int 0, .null]) dX2_init_16 wc_X2_7 wn_X0 wz_X0 df_X0 (xx_gp fun A4 z4 h4 o4 => ?_)
  rw [t3] at h4 ⊢
  have t4 : A4.1 = A.1 + 3 := by omega
  have h4 : A4.2 (A.1 + 2) = xx_o 0 [.int 0, .int 0, .null] := h4
  have h3_4 := (o4 b (by omega)).trans h3
  have p2_4 := (o4 A.1 (by omega)).trans p2_3
  have pb2_4 := (o4 (A.1 + 1) (by omega)).trans pb2_3
  refine xx_dup dX2_init_19 rfl ?_
  refine xx_callIN (N := mX0_init) (vs := []) (b := (A.1 + 2)) (rest := [.ref (A.1 + 2), .ref b]) (d2 := 1) (c2 := 1) (s2 := 14) (c3 := 0) (s3 := 0) dX2_init_20 (host := RX8) rfl rfl rfl (by decide) wi_X0_init (by decide) nX0_init ⟨pX0_init, Nat.le_of_ble_eq_true rfl, by decide, Nat.le_of_ble_eq_true rfl, by omega, by omega⟩ (c_big0 h4 (by omega)) (fun v A5 hC => ?_) (fun E A5 hC => ?_)
  rotate_left
  · exact absurd hC.1 (by simp)
  obtain ⟨hv, y5, zb5, fr5⟩ := hC
  cases hv
  have t5 : A5.1 = A.1 + 4 := by omega
  have h3_5 := (fr5 b (by omega) (by omega)).trans h3_4
  have p2_5 := (fr5 A.1 (by omega) (by omega)).trans p2_4
  have pb2_5 := (fr5 (A.1 + 1) (by omega) (by omega)).trans pb2_4
  refine xx_cst (st2 := [.ref (A.1 + 2), .ref b]) rfl ?_
  obtain ⟨p5, pb5⟩ := zb5
  refine xx_putF xx_c2 dX2_init_23 wf_X2_16 (j := 1) (by decide) rfl rfl rfl rfl rfl h3_5 (Nat.le_of_ble_eq_true rfl) (xx_gu fun A6 z6 h6 o6 => ?_)
  have h6 : A6.2 b = xx_o 2 [.ref A.1, .ref (A.1 + 2)] := h6
  have p2_6 := (o6 A.1 (by omega)).trans p2_5
  have pb2_6 := (o6 (A.1 + 1) (by omega)).trans pb2_5
  have p5_6 := (o6 (A.1 + 2) (by omega)).trans p5
  have pb5_6 := (o6 (A.1 + 2 + 1) (by omega)).trans pb5
  have t6 : A6.1 = A.1 + 4 := by omega
  refine xx_aload_n dX2_init_26 rfl ?_
  refine xx_get xx_c2 dX2_init_27 wf_X2_16 (j := 1) (by decide) h6 rfl ?_
  refine xx_lconst (v := 1) dX2_init_30 (by decide) ?_
  refine xx_callV (N := mX0_setTo) (vs := [.long 1]) (b := (A.1 + 2)) (rest := []) (d2 := 1) (c2 := 0) (s2 := 0) (c3 := 0) (s3 := 0) dX2_init_31 wm_X2_19 wi_X0_setTo wv_X0_setTo (k := 0) rfl (by decide) p5_6 nX0_setTo ⟨pX0_setTo, Nat.le_of_ble_eq_true rfl, by decide, Nat.le_of_ble_eq_true rfl, by decide, by decide⟩ (c_X0_setTo p5_6 pb5_6) (fun v A7 hC => ?_) (fun E A7 hC => ?_)
  rotate_left
  · exact absurd hC.1 (by simp)
  obtain ⟨hv, y7, sl7, sb7, fr7⟩ := hC
  cases hv
  have t7 : A7.1 = A.1 + 4 := by omega
  have h6_7 := (fr7 b (by omega) (by omega)).trans h6
  have p2_7 := (fr7 A.1 (by omega) (by omega)).trans p2_6
  have pb2_7 := (fr7 (A.1 + 1) (by omega) (by omega)).trans pb2_6
  refine xx_cst (st2 := []) rfl ?_
  rw [xx_d3_one] at sl7 sb7
  rw [xx_tl_one] at sb7
  have sb7 : A7.2 (A.1 + 2) = xx_o 0 [.int 1, .int 1, .ref (A.1 + 2 + 1)] := sb7
  exact xx_vret dX2_init_34 rfl ⟨rfl, by omega, ⟨h6_7, ⟨p2_7, pb2_7⟩, sb7, sl7⟩, fun q hq1 hq2 => by rw [fr7 q (by omega) (by omega), o6 q (by omega), fr5 q (by omega) (by omega), o4 q (by omega), o3 q (by omega), fr2 q (by omega) (by omega), o1 q (by omega)]⟩
def xx_tb0 (B : xx_H) (b a : Nat) : Prop := B.2 b = xx_o 5 [.int 0, .int 0, .int 0, .ref a, .ref (a + 1), .ref (a + 2), .ref (a + 87), .ref (a + 89), .ref (a + 91), .ref (a + 93)] ∧ B.2 a = xx_i 6 (fun _ => 0) ∧ B.2 (a + 1) = xx_i 6 (fun _ => 0) ∧ xx_row B (a + 2) 42 ∧ xx_zb B (a + 87) ∧ xx_zb B (a + 89) ∧ xx_zb B (a + 91) ∧ xx_div0 B (a + 93) (a + 94)
theorem xx_tb0.to {B C : xx_H} {b a : Nat} (h : xx_tb0 B b a) (h0 : C.2 b = B.2 b) (h1 : ∀ q, a ≤ q → q < a + 102 → C.2 q = B.2 q) : xx_tb0 C b a := by
  obtain ⟨g1, g2, g3, g4, g5, g6, g7, g8⟩ := h
  exact ⟨h0.trans g1, (h1 _ (by omega) (by omega)).trans g2, (h1 _ (by omega) (by omega)).trans g3, g4.to (fun q q1 q2 => h1 q (by omega) (by omega)), g5.to (h1 _ (by omega) (by omega)) (h1 _ (by omega) (by omega)), g6.to (h1 _ (by omega) (by omega)) (h1 _ (by omega) (by omega)), g7.to (h1 _ (by omega) (by omega)) (h1 _ (by omega) (by omega)), g8.to (h1 _ (by omega) (by omega)) (fun q q1 q2 => h1 q (by omega) (by omega))⟩
set_option maxRecDepth 100000 in
theorem c_X5_init {G : xx_G} {l : Launch} {A : xx_H} {b : Nat} (hb : A.2 b = xx_o 5 [.int 0, .int 0, .int 0, .null, .null, .null, .null, .null, .null, .null]) : xx_X G l mX5_init 4 102 906 0 (lv_args 0 [.ref b]) [] A (fun r B => r = .inl none ∧ B.1 = A.1 + 102 ∧ xx_tb0 B b A.1 ∧ ∀ q, q ≠ b → q < A.1 → B.2 q = A.2 q) := by
  refine xx_wf (fun wf => ?_)
  have hlt : b < A.1 := wf b (xx_k0 hb)
  refine xx_clv (lv2 := [(0, .ref b)]) rfl ?_
  refine xx_aload_n dX5_init_0 rfl ?_
  refine xx_obji dX5_init_1 wm_X5_3 wo_i wo_c (by decide) (Nat.le_of_ble_eq_true rfl) ?_
  refine xx_aload_n dX5_init_4 rfl ?_
  refine xx_iconst (v := 0) dX5_init_5 (by decide) ?_
  refine xx_put xx_c5 dX5_init_6 wf_X5_9 (j := 0) (by decide) rfl rfl rfl hb (Nat.le_of_ble_eq_true rfl) (xx_gu fun A1 z1 h1 o1 => ?_)
  have h1 : A1.2 b = xx_o 5 [.int 0, .int 0, .int 0, .null, .null, .null, .null, .null, .null, .null] := h1
  have t1 : A1.1 = A.1 + 0 := by omega
  refine xx_aload_n dX5_init_9 rfl ?_
  refine xx_iconst (v := 0) dX5_init_10 (by decide) ?_
  refine xx_put xx_c5 dX5_init_11 wf_X5_15 (j := 1) (by decide) rfl rfl rfl h1 (Nat.le_of_ble_eq_true rfl) (xx_gu fun A2 z2 h2 o2 => ?_)
  have h2 : A2.2 b = xx_o 5 [.int 0, .int 0, .int 0, .null, .null, .null, .null, .null, .null, .null] := h2
  have t2 : A2.1 = A.1 + 0 := by omega
  refine xx_aload_n dX5_init_14 rfl ?_
  refine xx_iconst (v := 0) dX5_init_15 (by decide) ?_
  refine xx_put xx_c5 dX5_init_16 wf_X5_18 (j := 2) (by decide) rfl rfl rfl h2 (Nat.le_of_ble_eq_true rfl) (xx_gu fun A3 z3 h3 o3 => ?_)
  have h3 : A3.2 b = xx_o 5 [.int 0, .int 0, .int 0, .null, .null, .null, .null, .null, .null, .null] := h3
  have t3 : A3.1 = A.1 + 0 := by omega
  refine xx_aload_n dX5_init_19 rfl ?_
  refine xx_bipush (v := 6) dX5_init_20 (by decide) ?_
  refine xx_newa (kd := 1) (N := 6) (z := .int 0) dX5_init_22 (by decide) rfl (by intro C h; cases h) wa_int rfl (by decide) (by decide) (by decide) (xx_gp fun A4 z4 h4 o4 => ?_)
  rw [t3] at h4 ⊢
  have t4 : A4.1 = A.1 + 1 := by omega
  have h4 : A4.2 A.1 = xx_i 6 (fun _ => 0) := h4
  have h3_4 := (o4 b (by omega)).trans h3
  refine xx_putF xx_c5 dX5_init_24 wf_X5_21 (j := 3) (by decide) rfl rfl rfl rfl rfl h3_4 (Nat.le_of_ble_eq_true rfl) (xx_gu fun A5 z5 h5 o5 => ?_)
  have h5 : A5.2 b = xx_o 5 [.int 0, .int 0, .int 0, .ref A.1, .null, .null, .null, .null, .null, .null] := h5
  have h4_5 := (o5 A.1 (by omega)).trans h4
  have t5 : A5.1 = A.1 + 1 := by omega
  refine xx_aload_n dX5_init_27 rfl ?_
  refine xx_bipush (v := 6) dX5_init_28 (by decide) ?_
  refine xx_newa (kd := 1) (N := 6) (z := .int 0) dX5_init_30 (by decide) rfl (by intro C h; cases h) wa_int rfl (by decide) (by decide) (by decide) (xx_gp fun A6 z6 h6 o6 => ?_)
  rw [t5] at h6 ⊢
  have t6 : A6.1 = A.1 + 2 := by omega
  have h6 : A6.2 (A.1 + 1) = xx_i 6 (fun _ => 0) := h6
  have h5_6 := (o6 b (by omega)).trans h5
  have h4_6 := (o6 A.1 (by omega)).trans h4_5
  refine xx_putF xx_c5 dX5_init_32 wf_X5_25 (j := 4) (by decide) rfl rfl rfl rfl rfl h5_6 (Nat.le_of_ble_eq_true rfl) (xx_gu fun A7 z7 h7 o7 => ?_)
  have h7 : A7.2 b = xx_o 5 [.int 0, .int 0, .int 0, .ref A.1, .ref (A.1 + 1), .null, .null, .null, .null, .null] := h7
  have h4_7 := (o7 A.1 (by omega)).trans h4_6
  have h6_7 := (o7 (A.1 + 1) (by omega)).trans h6
  have t7 : A7.1 = A.1 + 2 := by omega
  refine xx_aload_n dX5_init_35 rfl ?_
  refine xx_bipush (v := 42) dX5_init_36 (by decide) ?_
  refine xx_eqi (y := nI 42) rfl ?_
  refine xx_callSN (N := mX8_bigs) (vs := [.int (nI 42)]) (rest := [.ref b]) (d2 := 3) (c2 := 85) (s2 := 756) (c3 := 15) (s3 := 138) dX5_init_38 (host := RX8) (by decide) ws_X8_bigs wz_X8 (by decide) nX8_bigs ⟨pX8_bigs, Nat.le_of_ble_eq_true rfl, by decide, Nat.le_of_ble_eq_true rfl, by omega, by omega⟩ (c_X8_bigs (N := 42) (by decide)) (fun v A8 hC => ?_) (fun E A8 hC => ?_)
  rotate_left
  · exact absurd hC.1 (by simp)
  obtain ⟨hv, y8, rw8, fr8⟩ := hC
  cases hv
  rw [t7] at rw8
  rw [t7] at ⊢
  have t8 : A8.1 = A.1 + 87 := by omega
  have h7_8 := (fr8 b (by omega)).trans h7
  have h4_8 := (fr8 A.1 (by omega)).trans h4_7
  have h6_8 := (fr8 (A.1 + 1) (by omega)).trans h6_7
  refine xx_cst (st2 := [.ref (A.1 + 2), .ref b]) rfl ?_
  refine xx_putF xx_c5 dX5_init_41 wf_X5_32 (j := 5) (by decide) rfl rfl rfl rfl rfl h7_8 (Nat.le_of_ble_eq_true rfl) (xx_gu fun A9 z9 h9 o9 => ?_)
  have h9 : A9.2 b = xx_o 5 [.int 0, .int 0, .int 0, .ref A.1, .ref (A.1 + 1), .ref (A.1 + 2), .null, .null, .null, .null] := h9
  have h4_9 := (o9 A.1 (by omega)).trans h4_8
  have h6_9 := (o9 (A.1 + 1) (by omega)).trans h6_8
  have t9 : A9.1 = A.1 + 87 := by omega
  refine xx_aload_n dX5_init_44 rfl ?_
  refine xx_new xx_c0 (fs := [.int 0, .int 0, .null]) dX5_init_45 wc_X5_36 wn_X0 wz_X0 df_X0 (xx_gp fun A10 z10 h10 o10 => ?_)
  rw [t9] at h10 ⊢
  have t10 : A10.1 = A.1 + 88 := by omega
  have h10 : A10.2 (A.1 + 87) = xx_o 0 [.int 0, .int 0, .null] := h10
  have h9_10 := (o10 b (by omega)).trans h9
  have h4_10 := (o10 A.1 (by omega)).trans h4_9
  have h6_10 := (o10 (A.1 + 1) (by omega)).trans h6_9
  refine xx_dup dX5_init_48 rfl ?_
  refine xx_callIN (N := mX0_init) (vs := []) (b := (A.1 + 87)) (rest := [.ref (A.1 + 87), .ref b]) (d2 := 1) (c2 := 1) (s2 := 14) (c3 := 13) (s3 := 121) dX5_init_49 (host := RX8) rfl rfl rfl (by decide) wi_X0_init (by decide) nX0_init ⟨pX0_init, Nat.le_of_ble_eq_true rfl, by decide, Nat.le_of_ble_eq_true rfl, by omega, by omega⟩ (c_big0 h10 (by omega)) (fun v A11 hC => ?_) (fun E A11 hC => ?_)
  rotate_left
  · exact absurd hC.1 (by simp)
  obtain ⟨hv, y11, zb11, fr11⟩ := hC
  cases hv
  have t11 : A11.1 = A.1 + 89 := by omega
  have h9_11 := (fr11 b (by omega) (by omega)).trans h9_10
  have h4_11 := (fr11 A.1 (by omega) (by omega)).trans h4_10
  have h6_11 := (fr11 (A.1 + 1) (by omega) (by omega)).trans h6_10
  refine xx_cst (st2 := [.ref (A.1 + 87), .ref b]) rfl ?_
  obtain ⟨p11, pb11⟩ := zb11
  refine xx_put xx_c5 dX5_init_52 wf_X5_39 (j := 6) (by decide) rfl rfl rfl h9_11 (Nat.le_of_ble_eq_true rfl) (xx_gu fun A12 z12 h12 o12 => ?_)
  have h12 : A12.2 b = xx_o 5 [.int 0, .int 0, .int 0, .ref A.1, .ref (A.1 + 1), .ref (A.1 + 2), .ref (A.1 + 87), .null, .null, .null] := h12
  have h4_12 := (o12 A.1 (by omega)).trans h4_11
  have h6_12 := (o12 (A.1 + 1) (by omega)).trans h6_11
  have p11_12 := (o12 (A.1 + 87) (by omega)).trans p11
  have pb11_12 := (o12 (A.1 + 87 + 1) (by omega)).trans pb11
  have t12 : A12.1 = A.1 + 89 := by omega
  refine xx_aload_n dX5_init_55 rfl ?_
  refine xx_new xx_c0 (fs := [.int 0, .int 0, .null]) dX5_init_56 wc_X5_36 wn_X0 wz_X0 df_X0 (xx_gp fun A13 z13 h13 o13 => ?_)
  rw [t12] at h13 ⊢
  have t13 : A13.1 = A.1 + 90 := by omega
  have h13 : A13.2 (A.1 + 89) = xx_o 0 [.int 0, .int 0, .null] := h13
  have h12_13 := (o13 b (by omega)).trans h12
  have h4_13 := (o13 A.1 (by omega)).trans h4_12
  have h6_13 := (o13 (A.1 + 1) (by omega)).trans h6_12
  have p11_13 := (o13 (A.1 + 87) (by omega)).trans p11_12
  have pb11_13 := (o13 (A.1 + 87 + 1) (by omega)).trans pb11_12
  refine xx_dup dX5_init_59 rfl ?_
  refine xx_callIN (N := mX0_init) (vs := []) (b := (A.1 + 89)) (rest := [.ref (A.1 + 89), .ref b]) (d2 := 1) (c2 := 1) (s2 := 14) (c3 := 11) (s3 := 104) dX5_init_60 (host := RX8) rfl rfl rfl (by decide) wi_X0_init (by decide) nX0_init ⟨pX0_init, Nat.le_of_ble_eq_true rfl, by decide, Nat.le_of_ble_eq_true rfl, by omega, by omega⟩ (c_big0 h13 (by omega)) (fun v A14 hC => ?_) (fun E A14 hC => ?_)
  rotate_left
  · exact absurd hC.1 (by simp)
  obtain ⟨hv, y14, zb14, fr14⟩ := hC
  cases hv
  have t14 : A14.1 = A.1 + 91 := by omega
  have h12_14 := (fr14 b (by omega) (by omega)).trans h12_13
  have h4_14 := (fr14 A.1 (by omega) (by omega)).trans h4_13
  have h6_14 := (fr14 (A.1 + 1) (by omega) (by omega)).trans h6_13
  have p11_14 := (fr14 (A.1 + 87) (by omega) (by omega)).trans p11_13
  have pb11_14 := (fr14 (A.1 + 87 + 1) (by omega) (by omega)).trans pb11_13
  refine xx_cst (st2 := [.ref (A.1 + 89), .ref b]) rfl ?_
  obtain ⟨p14, pb14⟩ := zb14
  refine xx_putF xx_c5 dX5_init_63 wf_X5_43 (j := 7) (by decide) rfl rfl rfl rfl rfl h12_14 (Nat.le_of_ble_eq_true rfl) (xx_gu fun A15 z15 h15 o15 => ?_)
  have h15 : A15.2 b = xx_o 5 [.int 0, .int 0, .int 0, .ref A.1, .ref (A.1 + 1), .ref (A.1 + 2), .ref (A.1 + 87), .ref (A.1 + 89), .null, .null] := h15
  have h4_15 := (o15 A.1 (by omega)).trans h4_14
  have h6_15 := (o15 (A.1 + 1) (by omega)).trans h6_14
  have p11_15 := (o15 (A.1 + 87) (by omega)).trans p11_14
  have pb11_15 := (o15 (A.1 + 87 + 1) (by omega)).trans pb11_14
  have p14_15 := (o15 (A.1 + 89) (by omega)).trans p14
  have pb14_15 := (o15 (A.1 + 89 + 1) (by omega)).trans pb14
  have t15 : A15.1 = A.1 + 91 := by omega
  refine xx_aload_n dX5_init_66 rfl ?_
  refine xx_new xx_c0 (fs := [.int 0, .int 0, .null]) dX5_init_67 wc_X5_36 wn_X0 wz_X0 df_X0 (xx_gp fun A16 z16 h16 o16 => ?_)
  rw [t15] at h16 ⊢
  have t16 : A16.1 = A.1 + 92 := by omega
  have h16 : A16.2 (A.1 + 91) = xx_o 0 [.int 0, .int 0, .null] := h16
  have h15_16 := (o16 b (by omega)).trans h15
  have h4_16 := (o16 A.1 (by omega)).trans h4_15
  have h6_16 := (o16 (A.1 + 1) (by omega)).trans h6_15
  have p11_16 := (o16 (A.1 + 87) (by omega)).trans p11_15
  have pb11_16 := (o16 (A.1 + 87 + 1) (by omega)).trans pb11_15
  have p14_16 := (o16 (A.1 + 89) (by omega)).trans p14_15
  have pb14_16 := (o16 (A.1 + 89 + 1) (by omega)).trans pb14_15
  refine xx_dup dX5_init_70 rfl ?_
  refine xx_callIN (N := mX0_init) (vs := []) (b := (A.1 + 91)) (rest := [.ref (A.1 + 91), .ref b]) (d2 := 1) (c2 := 1) (s2 := 14) (c3 := 9) (s3 := 87) dX5_init_71 (host := RX8) rfl rfl rfl (by decide) wi_X0_init (by decide) nX0_init ⟨pX0_init, Nat.le_of_ble_eq_true rfl, by decide, Nat.le_of_ble_eq_true rfl, by omega, by omega⟩ (c_big0 h16 (by omega)) (fun v A17 hC => ?_) (fun E A17 hC => ?_)
  rotate_left
  · exact absurd hC.1 (by simp)
  obtain ⟨hv, y17, zb17, fr17⟩ := hC
  cases hv
  have t17 : A17.1 = A.1 + 93 := by omega
  have h15_17 := (fr17 b (by omega) (by omega)).trans h15_16
  have h4_17 := (fr17 A.1 (by omega) (by omega)).trans h4_16
  have h6_17 := (fr17 (A.1 + 1) (by omega) (by omega)).trans h6_16
  have p11_17 := (fr17 (A.1 + 87) (by omega) (by omega)).trans p11_16
  have pb11_17 := (fr17 (A.1 + 87 + 1) (by omega) (by omega)).trans pb11_16
  have p14_17 := (fr17 (A.1 + 89) (by omega) (by omega)).trans p14_16
  have pb14_17 := (fr17 (A.1 + 89 + 1) (by omega) (by omega)).trans pb14_16
  refine xx_cst (st2 := [.ref (A.1 + 91), .ref b]) rfl ?_
  obtain ⟨p17, pb17⟩ := zb17
  refine xx_putF xx_c5 dX5_init_74 wf_X5_46 (j := 8) (by decide) rfl rfl rfl rfl rfl h15_17 (Nat.le_of_ble_eq_true rfl) (xx_gu fun A18 z18 h18 o18 => ?_)
  have h18 : A18.2 b = xx_o 5 [.int 0, .int 0, .int 0, .ref A.1, .ref (A.1 + 1), .ref (A.1 + 2), .ref (A.1 + 87), .ref (A.1 + 89), .ref (A.1 + 91), .null] := h18
  have h4_18 := (o18 A.1 (by omega)).trans h4_17
  have h6_18 := (o18 (A.1 + 1) (by omega)).trans h6_17
  have p11_18 := (o18 (A.1 + 87) (by omega)).trans p11_17
  have pb11_18 := (o18 (A.1 + 87 + 1) (by omega)).trans pb11_17
  have p14_18 := (o18 (A.1 + 89) (by omega)).trans p14_17
  have pb14_18 := (o18 (A.1 + 89 + 1) (by omega)).trans pb14_17
  have p17_18 := (o18 (A.1 + 91) (by omega)).trans p17
  have pb17_18 := (o18 (A.1 + 91 + 1) (by omega)).trans pb17
  have t18 : A18.1 = A.1 + 93 := by omega
  refine xx_aload_n dX5_init_77 rfl ?_
  refine xx_new xx_c1 (fs := [.null, .null, .null, .null, .null, .null]) dX5_init_78 wc_X5_49 wn_X1 wz_X1 df_X1 (xx_gp fun A19 z19 h19 o19 => ?_)
  rw [t18] at h19 ⊢
  have t19 : A19.1 = A.1 + 94 := by omega
  have h19 : A19.2 (A.1 + 93) = xx_o 1 [.null, .null, .null, .null, .null, .null] := h19
  have h18_19 := (o19 b (by omega)).trans h18
  have h4_19 := (o19 A.1 (by omega)).trans h4_18
  have h6_19 := (o19 (A.1 + 1) (by omega)).trans h6_18
  have p11_19 := (o19 (A.1 + 87) (by omega)).trans p11_18
  have pb11_19 := (o19 (A.1 + 87 + 1) (by omega)).trans pb11_18
  have p14_19 := (o19 (A.1 + 89) (by omega)).trans p14_18
  have pb14_19 := (o19 (A.1 + 89 + 1) (by omega)).trans pb14_18
  have p17_19 := (o19 (A.1 + 91) (by omega)).trans p17_18
  have pb17_19 := (o19 (A.1 + 91 + 1) (by omega)).trans pb17_18
  refine xx_dup dX5_init_81 rfl ?_
  refine xx_callIN (N := mX1_init) (vs := []) (b := (A.1 + 93)) (rest := [.ref (A.1 + 93), .ref b]) (d2 := 2) (c2 := 8) (s2 := 81) (c3 := 0) (s3 := 0) dX5_init_82 (host := RX8) rfl rfl rfl (by decide) wi_X1_init (by decide) nX1_init ⟨pX1_init, Nat.le_of_ble_eq_true rfl, by decide, Nat.le_of_ble_eq_true rfl, by omega, by omega⟩ (c_X1_init h19) (fun v A20 hC => ?_) (fun E A20 hC => ?_)
  rotate_left
  · exact absurd hC.1 (by simp)
  obtain ⟨hv, y20, cf20, fr20⟩ := hC
  cases hv
  rw [t19] at cf20
  have t20 : A20.1 = A.1 + 102 := by omega
  have h18_20 := (fr20 b (by omega) (by omega)).trans h18_19
  have h4_20 := (fr20 A.1 (by omega) (by omega)).trans h4_19
  have h6_20 := (fr20 (A.1 + 1) (by omega) (by omega)).trans h6_19
  have p11_20 := (fr20 (A.1 + 87) (by omega) (by omega)).trans p11_19
  have pb11_20 := (fr20 (A.1 + 87 + 1) (by omega) (by omega)).trans pb11_19
  have p14_20 := (fr20 (A.1 + 89) (by omega) (by omega)).trans p14_19
  have pb14_20 := (fr20 (A.1 + 89 + 1) (by omega) (by omega)).trans pb14_19
  have p17_20 := (fr20 (A.1 + 91) (by omega) (by omega)).trans p17_19
  have pb17_20 := (fr20 (A.1 + 91 + 1) (by omega) (by omega)).trans pb17_19
  refine xx_cst (st2 := [.ref (A.1 + 93), .ref b]) rfl ?_
  refine xx_putF xx_c5 dX5_init_85 wf_X5_52 (j := 9) (by decide) rfl rfl rfl rfl rfl h18_20 (Nat.le_of_ble_eq_true rfl) (xx_gu fun A21 z21 h21 o21 => ?_)
  have h21 : A21.2 b = xx_o 5 [.int 0, .int 0, .int 0, .ref A.1, .ref (A.1 + 1), .ref (A.1 + 2), .ref (A.1 + 87), .ref (A.1 + 89), .ref (A.1 + 91), .ref (A.1 + 93)] := h21
  have h4_21 := (o21 A.1 (by omega)).trans h4_20
  have h6_21 := (o21 (A.1 + 1) (by omega)).trans h6_20
  have p11_21 := (o21 (A.1 + 87) (by omega)).trans p11_20
  have pb11_21 := (o21 (A.1 + 87 + 1) (by omega)).trans pb11_20
  have p14_21 := (o21 (A.1 + 89) (by omega)).trans p14_20
  have pb14_21 := (o21 (A.1 + 89 + 1) (by omega)).trans pb14_20
  have p17_21 := (o21 (A.1 + 91) (by omega)).trans p17_20
  have pb17_21 := (o21 (A.1 + 91 + 1) (by omega)).trans pb17_20
  have t21 : A21.1 = A.1 + 102 := by omega
  exact xx_vret dX5_init_88 rfl ⟨rfl, by omega, ⟨h21, h4_21, h6_21, (rw8.to (fun q hq1 hq2 => by rw [o21 q (by omega), fr20 q (by omega) (by omega), o19 q (by omega), o18 q (by omega), fr17 q (by omega) (by omega), o16 q (by omega), o15 q (by omega), fr14 q (by omega) (by omega), o13 q (by omega), o12 q (by omega), fr11 q (by omega) (by omega), o10 q (by omega), o9 q (by omega)])), ⟨p11_21, pb11_21⟩, ⟨p14_21, pb14_21⟩, ⟨p17_21, pb17_21⟩, (cf20.to (by rw [o21 _ (by omega)]) (fun q hq1 hq2 => by rw [o21 q (by omega)]))⟩, fun q hq1 hq2 => by rw [o21 q (by omega), fr20 q (by omega) (by omega), o19 q (by omega), o18 q (by omega), fr17 q (by omega) (by omega), o16 q (by omega), o15 q (by omega), fr14 q (by omega) (by omega), o13 q (by omega), o12 q (by omega), fr11 q (by omega) (by omega), o10 q (by omega), o9 q (by omega), fr8 q (by omega), o7 q (by omega), o6 q (by omega), o5 q (by omega), o4 q (by omega), o3 q (by omega), o2 q (by omega), o1 q (by omega)]⟩
